theorem dX4_feed_0 : decode cX4_feed 0 = .ok (.iload_n 2, 1) := by decide +kernel
theorem dX4_feed_1 : decode cX4_feed 1 = .ok (.iconst 1, 1) := by decide +kernel
theorem dX4_feed_2 : decode cX4_feed 2 = .ok (.if_icmp .lt 8, 3) := by decide +kernel
theorem dX4_feed_5 : decode cX4_feed 5 = .ok (.iload_n 2, 1) := by decide +kernel
theorem dX4_feed_6 : decode cX4_feed 6 = .ok (.iconst 4, 1) := by decide +kernel
theorem dX4_feed_7 : decode cX4_feed 7 = .ok (.if_icmp .le 9, 3) := by decide +kernel
theorem dX4_feed_10 : decode cX4_feed 10 = .ok (.aload_n 0, 1) := by decide +kernel
theorem dX4_feed_11 : decode cX4_feed 11 = .ok (.iconst 0, 1) := by decide +kernel
theorem dX4_feed_12 : decode cX4_feed 12 = .ok (.invokevirtual 58, 3) := by decide +kernel
theorem dX4_feed_15 : decode cX4_feed 15 = .ok (.ireturn, 1) := by decide +kernel
theorem dX4_feed_16 : decode cX4_feed 16 = .ok (.aload_n 0, 1) := by decide +kernel
theorem dX4_feed_17 : decode cX4_feed 17 = .ok (.getfield 32, 3) := by decide +kernel
theorem dX4_feed_20 : decode cX4_feed 20 = .ok (.getfield 220, 3) := by decide +kernel
theorem dX4_feed_23 : decode cX4_feed 23 = .ok (.iload_n 2, 1) := by decide +kernel
theorem dX4_feed_24 : decode cX4_feed 24 = .ok (.iadd, 1) := by decide +kernel
theorem dX4_feed_25 : decode cX4_feed 25 = .ok (.bipush 120, 2) := by decide +kernel
theorem dX4_feed_27 : decode cX4_feed 27 = .ok (.if_icmp .le 9, 3) := by decide +kernel
theorem dX4_feed_30 : decode cX4_feed 30 = .ok (.aload_n 0, 1) := by decide +kernel
theorem dX4_feed_31 : decode cX4_feed 31 = .ok (.iconst 1, 1) := by decide +kernel
theorem dX4_feed_32 : decode cX4_feed 32 = .ok (.invokevirtual 58, 3) := by decide +kernel
theorem dX4_feed_35 : decode cX4_feed 35 = .ok (.ireturn, 1) := by decide +kernel
theorem dX4_feed_36 : decode cX4_feed 36 = .ok (.aload_n 0, 1) := by decide +kernel
theorem dX4_feed_37 : decode cX4_feed 37 = .ok (.getfield 32, 3) := by decide +kernel
theorem dX4_feed_40 : decode cX4_feed 40 = .ok (.iload_n 1, 1) := by decide +kernel
theorem dX4_feed_41 : decode cX4_feed 41 = .ok (.iload_n 2, 1) := by decide +kernel
theorem dX4_feed_42 : decode cX4_feed 42 = .ok (.invokevirtual 223, 3) := by decide +kernel
theorem dX4_feed_45 : decode cX4_feed 45 = .ok (.aload_n 0, 1) := by decide +kernel
theorem dX4_feed_46 : decode cX4_feed 46 = .ok (.getfield 32, 3) := by decide +kernel
theorem dX4_feed_49 : decode cX4_feed 49 = .ok (.getfield 220, 3) := by decide +kernel
theorem dX4_feed_52 : decode cX4_feed 52 = .ok (.ireturn, 1) := by decide +kernel
def finX4_feed (N : Ml) : Int32 × Mi → Option Value × Mi × Ml := fun b => (some (Value.int b.1), b.2, N)
noncomputable def fX4_feed_10   (M : Mi) : Option (Int32 × Mi) := (Option.bind (fX4_finding M 0) (fun a2 => (some (a2.1, (a2.2)))))
theorem bX4_feed_10 {Z : Zt} {E : Ec} {N : Ml} (C : Ok 1 Z E cX4_feed 3 RX4 (some .int) 1)    (M : Mi)  : GT Z E 3 (finX4_feed N) 10 [(0, .ref (zA Z 8 0))] [] M N (fX4_feed_10 M) := by
  unfold fX4_feed_10
  refine r_aload_n C dX4_feed_10 0 0 rfl rfl ?_
  refine r_iconst (v := 0) C dX4_feed_11 (by decide) ?_
  refine r_bind (fun a2 ha2 => ?_)
  refine r_callV (rest := []) (st2 := [.int a2.1]) C (mX4_finding (eL E) C.z M N 0 a2 ha2) lk_X4_58 (rvX C) (by decide) rfl rfl (Nat.le_of_ble_eq_true rfl) dX4_feed_12 rfl ?_
  exact r_iret C dX4_feed_15 rfl
noncomputable def fX4_feed   (M : Mi) (x1 : Int32) (x2 : Int32) : Option (Int32 × Mi) := (if x2 < 1 then (fX4_feed_10 M) else (if x2 ≤ 4 then (if ((M 5 0) + x2) ≤ 120 then (Option.bind (fX3_takes M x1 x2) (fun a5 => (some ((a5 5 0), a5)))) else (Option.bind (fX4_finding M 1) (fun a6 => (some (a6.1, (a6.2)))))) else (fX4_feed_10 M)))
theorem bX4_feed {Z : Zt} {E : Ec} {N : Ml} (C : Ok 1 Z E cX4_feed 3 RX4 (some .int) 1)    (M : Mi) (x1 : Int32) (x2 : Int32)  : GT Z E 3 (finX4_feed N) 0 [(0, .ref (zA Z 8 0)), (1, .int x1), (2, .int x2)] [] M N (fX4_feed M x1 x2) := by
  unfold fX4_feed
  refine r_iload_n C dX4_feed_0 2 2 rfl rfl ?_
  refine r_iconst (v := 1) C dX4_feed_1 (by decide) ?_
  refine r_ic_lt (tgt := 10) C dX4_feed_2 (by decide) (fun c1 => ?_) (fun c1 => ?_)
  · refine r_lv [0] (lv' := [(0, .ref (zA Z 8 0))]) rfl ?_
    exact bX4_feed_10 C M
  · refine r_iload_n C dX4_feed_5 2 2 rfl rfl ?_
    refine r_iconst (v := 4) C dX4_feed_6 (by decide) ?_
    refine r_ic_le (tgt := 16) C dX4_feed_7 (by decide) (fun c3 => ?_) (fun c3 => ?_)
    · refine r_aload_n C dX4_feed_16 0 0 rfl rfl ?_
      refine gf_X4_32 C dX4_feed_17 ?_
      refine gf_X4_220 (v := (M 5 0)) C dX4_feed_20 rfl ?_
      refine r_iload_n C dX4_feed_23 2 2 rfl rfl ?_
      refine r_iadd C dX4_feed_24 ?_
      refine r_bipush (v := 120) C dX4_feed_25 (by decide) ?_
      refine r_ic_le (tgt := 36) C dX4_feed_27 (by decide) (fun c4 => ?_) (fun c4 => ?_)
      · refine r_aload_n C dX4_feed_36 0 0 rfl rfl ?_
        refine gf_X4_32 C dX4_feed_37 ?_
        refine r_iload_n C dX4_feed_40 1 1 rfl rfl ?_
        refine r_iload_n C dX4_feed_41 2 2 rfl rfl ?_
        refine r_bind (fun a5 ha5 => ?_)
        refine r_callV (rest := []) (st2 := []) C (mX3_takes (eL E) C.z M N x1 x2 a5 ha5) lk_X4_223 (rvT C) (by decide) rfl rfl (Nat.le_of_ble_eq_true rfl) dX4_feed_42 rfl ?_
        refine r_aload_n C dX4_feed_45 0 0 rfl rfl ?_
        refine gf_X4_32 C dX4_feed_46 ?_
        refine gf_X4_220 (v := (a5 5 0)) C dX4_feed_49 rfl ?_
        exact r_iret C dX4_feed_52 rfl
      · refine r_aload_n C dX4_feed_30 0 0 rfl rfl ?_
        refine r_iconst (v := 1) C dX4_feed_31 (by decide) ?_
        refine r_bind (fun a6 ha6 => ?_)
        refine r_callV (rest := []) (st2 := [.int a6.1]) C (mX4_finding (eL E) C.z M N 1 a6 ha6) lk_X4_58 (rvX C) (by decide) rfl rfl (Nat.le_of_ble_eq_true rfl) dX4_feed_32 rfl ?_
        exact r_iret C dX4_feed_35 rfl
    · refine r_lv [0] (lv' := [(0, .ref (zA Z 8 0))]) rfl ?_
      exact bX4_feed_10 C M
theorem mX4_feed (l : Launch) {Z : Zt} (hZ : Zok 1 Z) (M : Mi) (N : Ml) (x1 : Int32) (x2 : Int32) (b : Int32 × Mi) (hb : fX4_feed M x1 x2 = some b) : Ct 1 Z l yX4_feed cX4_feed 3 (some .int) 1 [.ref (zA Z 8 0), .int x1, .int x2] M N (some (Value.int b.1), b.2, N) :=
  metG (fin := (finX4_feed N)) (by decide) (Nat.le_of_ble_eq_true rfl) (fun E _ C => bX4_feed C M x1 x2) hb
theorem dX4_wipe_0 : decode cX4_wipe 0 = .ok (.aload_n 0, 1) := by decide +kernel
theorem dX4_wipe_1 : decode cX4_wipe 1 = .ok (.getfield 32, 3) := by decide +kernel
theorem dX4_wipe_4 : decode cX4_wipe 4 = .ok (.getfield 220, 3) := by decide +kernel
theorem dX4_wipe_7 : decode cX4_wipe 7 = .ok (.istore_n 1, 1) := by decide +kernel
theorem dX4_wipe_8 : decode cX4_wipe 8 = .ok (.aload_n 0, 1) := by decide +kernel
theorem dX4_wipe_9 : decode cX4_wipe 9 = .ok (.getfield 32, 3) := by decide +kernel
theorem dX4_wipe_12 : decode cX4_wipe 12 = .ok (.iconst 0, 1) := by decide +kernel
theorem dX4_wipe_13 : decode cX4_wipe 13 = .ok (.putfield 220, 3) := by decide +kernel
theorem dX4_wipe_16 : decode cX4_wipe 16 = .ok (.iload_n 1, 1) := by decide +kernel
theorem dX4_wipe_17 : decode cX4_wipe 17 = .ok (.ireturn, 1) := by decide +kernel
def finX4_wipe (N : Ml) : Int32 × Mi → Option Value × Mi × Ml := fun b => (some (Value.int b.1), b.2, N)
noncomputable def fX4_wipe   (M : Mi) : Option (Int32 × Mi) := (some ((M 5 0), (wM M 5 0 0)))
theorem bX4_wipe {Z : Zt} {E : Ec} {N : Ml} (C : Ok 1 Z E cX4_wipe 2 RX4 (some .int) 0)    (M : Mi)  : GT Z E 2 (finX4_wipe N) 0 [(0, .ref (zA Z 8 0))] [] M N (fX4_wipe M) := by
  unfold fX4_wipe
  refine r_aload_n C dX4_wipe_0 0 0 rfl rfl ?_
  refine gf_X4_32 C dX4_wipe_1 ?_
  refine gf_X4_220 (v := (M 5 0)) C dX4_wipe_4 rfl ?_
  refine r_istore_n (lv' := [(1, .int (M 5 0)), (0, .ref (zA Z 8 0))]) C dX4_wipe_7 1 rfl (by decide) rfl ?_
  refine r_aload_n C dX4_wipe_8 0 1 rfl rfl ?_
  refine gf_X4_32 C dX4_wipe_9 ?_
  refine r_iconst (v := 0) C dX4_wipe_12 (by decide) ?_
  refine pf_X4_220 (M' := (wM M 5 0 0)) C dX4_wipe_13 rfl ?_
  refine r_iload_n C dX4_wipe_16 1 0 rfl rfl ?_
  exact r_iret C dX4_wipe_17 rfl
theorem mX4_wipe (l : Launch) {Z : Zt} (hZ : Zok 1 Z) (M : Mi) (N : Ml) (b : Int32 × Mi) (hb : fX4_wipe M = some b) : Ct 1 Z l yX4_wipe cX4_wipe 2 (some .int) 0 [.ref (zA Z 8 0)] M N (some (Value.int b.1), b.2, N) :=
  metG (fin := (finX4_wipe N)) (by decide) (Nat.le_of_ble_eq_true rfl) (fun E _ C => bX4_wipe C M) hb
theorem dX4_sheet_0 : decode cX4_sheet 0 = .ok (.iload_n 1, 1) := by decide +kernel
theorem dX4_sheet_1 : decode cX4_sheet 1 = .ok (.iconst 4, 1) := by decide +kernel
theorem dX4_sheet_2 : decode cX4_sheet 2 = .ok (.invokestatic 69, 3) := by decide +kernel
theorem dX4_sheet_5 : decode cX4_sheet 5 = .ok (.ifCond .eq 25, 3) := by decide +kernel
theorem dX4_sheet_8 : decode cX4_sheet 8 = .ok (.iload_n 2, 1) := by decide +kernel
theorem dX4_sheet_9 : decode cX4_sheet 9 = .ok (.ifCond .eq 27, 3) := by decide +kernel
theorem dX4_sheet_12 : decode cX4_sheet 12 = .ok (.iload_n 2, 1) := by decide +kernel
theorem dX4_sheet_13 : decode cX4_sheet 13 = .ok (.bipush 8, 2) := by decide +kernel
theorem dX4_sheet_15 : decode cX4_sheet 15 = .ok (.if_icmp .eq 21, 3) := by decide +kernel
theorem dX4_sheet_18 : decode cX4_sheet 18 = .ok (.iload_n 2, 1) := by decide +kernel
theorem dX4_sheet_19 : decode cX4_sheet 19 = .ok (.bipush 16, 2) := by decide +kernel
theorem dX4_sheet_21 : decode cX4_sheet 21 = .ok (.if_icmp .eq 15, 3) := by decide +kernel
theorem dX4_sheet_24 : decode cX4_sheet 24 = .ok (.iload_n 2, 1) := by decide +kernel
theorem dX4_sheet_25 : decode cX4_sheet 25 = .ok (.bipush 64, 2) := by decide +kernel
theorem dX4_sheet_27 : decode cX4_sheet 27 = .ok (.if_icmp .eq 9, 3) := by decide +kernel
theorem dX4_sheet_30 : decode cX4_sheet 30 = .ok (.aload_n 0, 1) := by decide +kernel
theorem dX4_sheet_31 : decode cX4_sheet 31 = .ok (.iconst 0, 1) := by decide +kernel
theorem dX4_sheet_32 : decode cX4_sheet 32 = .ok (.invokevirtual 58, 3) := by decide +kernel
theorem dX4_sheet_35 : decode cX4_sheet 35 = .ok (.ireturn, 1) := by decide +kernel
theorem dX4_sheet_36 : decode cX4_sheet 36 = .ok (.iload_n 3, 1) := by decide +kernel
theorem dX4_sheet_37 : decode cX4_sheet 37 = .ok (.ifCond .ge 10, 3) := by decide +kernel
theorem dX4_sheet_40 : decode cX4_sheet 40 = .ok (.aload_n 0, 1) := by decide +kernel
theorem dX4_sheet_41 : decode cX4_sheet 41 = .ok (.bipush 6, 2) := by decide +kernel
theorem dX4_sheet_43 : decode cX4_sheet 43 = .ok (.invokevirtual 58, 3) := by decide +kernel
theorem dX4_sheet_46 : decode cX4_sheet 46 = .ok (.ireturn, 1) := by decide +kernel
theorem dX4_sheet_47 : decode cX4_sheet 47 = .ok (.iload_n 3, 1) := by decide +kernel
theorem dX4_sheet_48 : decode cX4_sheet 48 = .ok (.bipush 40, 2) := by decide +kernel
theorem dX4_sheet_50 : decode cX4_sheet 50 = .ok (.if_icmp .le 9, 3) := by decide +kernel
theorem dX4_sheet_53 : decode cX4_sheet 53 = .ok (.aload_n 0, 1) := by decide +kernel
theorem dX4_sheet_54 : decode cX4_sheet 54 = .ok (.iconst 0, 1) := by decide +kernel
theorem dX4_sheet_55 : decode cX4_sheet 55 = .ok (.invokevirtual 58, 3) := by decide +kernel
theorem dX4_sheet_58 : decode cX4_sheet 58 = .ok (.ireturn, 1) := by decide +kernel
theorem dX4_sheet_59 : decode cX4_sheet 59 = .ok (.aload_n 0, 1) := by decide +kernel
theorem dX4_sheet_60 : decode cX4_sheet 60 = .ok (.getfield 38, 3) := by decide +kernel
theorem dX4_sheet_63 : decode cX4_sheet 63 = .ok (.iload_n 1, 1) := by decide +kernel
theorem dX4_sheet_64 : decode cX4_sheet 64 = .ok (.aaload, 1) := by decide +kernel
theorem dX4_sheet_65 : decode cX4_sheet 65 = .ok (.iload_n 2, 1) := by decide +kernel
theorem dX4_sheet_66 : decode cX4_sheet 66 = .ok (.iload_n 2, 1) := by decide +kernel
theorem dX4_sheet_67 : decode cX4_sheet 67 = .ok (.ifCond .ne 7, 3) := by decide +kernel
theorem dX4_sheet_70 : decode cX4_sheet 70 = .ok (.iconst 0, 1) := by decide +kernel
theorem dX4_sheet_71 : decode cX4_sheet 71 = .ok (.goto 4, 3) := by decide +kernel
theorem dX4_sheet_74 : decode cX4_sheet 74 = .ok (.iload_n 3, 1) := by decide +kernel
theorem dX4_sheet_75 : decode cX4_sheet 75 = .ok (.invokevirtual 231, 3) := by decide +kernel
theorem dX4_sheet_78 : decode cX4_sheet 78 = .ok (.aload_n 0, 1) := by decide +kernel
theorem dX4_sheet_79 : decode cX4_sheet 79 = .ok (.getfield 38, 3) := by decide +kernel
theorem dX4_sheet_82 : decode cX4_sheet 82 = .ok (.iload_n 1, 1) := by decide +kernel
theorem dX4_sheet_83 : decode cX4_sheet 83 = .ok (.aaload, 1) := by decide +kernel
theorem dX4_sheet_84 : decode cX4_sheet 84 = .ok (.getfield 234, 3) := by decide +kernel
theorem dX4_sheet_87 : decode cX4_sheet 87 = .ok (.ireturn, 1) := by decide +kernel
def finX4_sheet  : Int32 × Mi × Ml → Option Value × Mi × Ml := fun b => (some (Value.int b.1), b.2.1, b.2.2)
noncomputable def fX4_sheet_30   (M : Mi) (N : Ml) : Option (Int32 × Mi × Ml) := (Option.bind (fX4_finding M 0) (fun a2 => (some (a2.1, (a2.2), N))))
theorem bX4_sheet_30 {Z : Zt} {E : Ec}  (C : Ok 1 Z E cX4_sheet 4 RX4 (some .int) 1)    (M : Mi) (N : Ml)  : GT Z E 4 finX4_sheet 30 [(0, .ref (zA Z 8 0))] [] M N (fX4_sheet_30 M N) := by
  unfold fX4_sheet_30
  refine r_aload_n C dX4_sheet_30 0 0 rfl rfl ?_
  refine r_iconst (v := 0) C dX4_sheet_31 (by decide) ?_
  refine r_bind (fun a2 ha2 => ?_)
  refine r_callV (rest := []) (st2 := [.int a2.1]) C (mX4_finding (eL E) C.z M N 0 a2 ha2) lk_X4_58 (rvX C) (by decide) rfl rfl (Nat.le_of_ble_eq_true rfl) dX4_sheet_32 rfl ?_
  exact r_iret C dX4_sheet_35 rfl
noncomputable def fX4_sheet_75   (M : Mi) (N : Ml) (x1 : Int32) (s0 : Int32) (s1 : Int32) (q2 : Nat) : Option (Int32 × Mi × Ml) := (Option.bind (fX2_becomesBlank q2 M N s1 s0) (fun a9 => (if inb x1 4 then (some (((a9.1) (20 + ix x1) 1), (a9.1), (a9.2))) else none)))
theorem bX4_sheet_75 {Z : Zt} {E : Ec}  (C : Ok 1 Z E cX4_sheet 4 RX4 (some .int) 1)    (M : Mi) (N : Ml) (x1 : Int32) (s0 : Int32) (s1 : Int32) (q2 : Nat) (hq2 : 20 ≤ q2 ∧ q2 < 24) : GT Z E 4 finX4_sheet 75 [(0, .ref (zA Z 8 0)), (1, .int x1)] [.int s0, .int s1, .ref (zA Z q2 0)] M N (fX4_sheet_75 M N x1 s0 s1 q2) := by
  unfold fX4_sheet_75
  refine r_bind (fun a9 ha9 => ?_)
  refine r_callV (rest := []) (st2 := []) C (mX2_becomesBlank (eL E) C.z hq2 M N q2 s1 s0 a9 ha9) lk_X4_231 (rvS C hq2) (by decide) rfl rfl (Nat.le_of_ble_eq_true rfl) dX4_sheet_75 rfl ?_
  refine r_aload_n C dX4_sheet_78 0 0 rfl rfl ?_
  refine gf_X4_38 C dX4_sheet_79 ?_
  refine r_iload_n C dX4_sheet_82 1 1 rfl rfl ?_
  refine r_guard (fun h10 => ?_)
  refine ald_T C h10 dX4_sheet_83 ?_
  refine gf_X4_234 (v := ((a9.1) (20 + ix x1) 1)) C (gS h10) dX4_sheet_84 rfl ?_
  exact r_iret C dX4_sheet_87 rfl
noncomputable def fX4_sheet_36   (M : Mi) (N : Ml) (x1 : Int32) (x2 : Int32) (x3 : Int32) : Option (Int32 × Mi × Ml) := (if 0 ≤ x3 then (if x3 ≤ 40 then (if inb x1 4 then (fX4_sheet_75 M N x1 (if x2 = 0 then 0 else x3 : Int32) x2 (20 + ix x1)) else none) else (Option.bind (fX4_finding M 0) (fun a11 => (some (a11.1, (a11.2), N))))) else (Option.bind (fX4_finding M 6) (fun a12 => (some (a12.1, (a12.2), N)))))
theorem bX4_sheet_36 {Z : Zt} {E : Ec}  (C : Ok 1 Z E cX4_sheet 4 RX4 (some .int) 1)    (M : Mi) (N : Ml) (x1 : Int32) (x2 : Int32) (x3 : Int32)  : GT Z E 4 finX4_sheet 36 [(0, .ref (zA Z 8 0)), (1, .int x1), (2, .int x2), (3, .int x3)] [] M N (fX4_sheet_36 M N x1 x2 x3) := by
  unfold fX4_sheet_36
  refine r_iload_n C dX4_sheet_36 3 3 rfl rfl ?_
  refine r_if_ge (tgt := 47) C dX4_sheet_37 (by decide) (fun c4 => ?_) (fun c4 => ?_)
  · refine r_iload_n C dX4_sheet_47 3 3 rfl rfl ?_
    refine r_bipush (v := 40) C dX4_sheet_48 (by decide) ?_
    refine r_ic_le (tgt := 59) C dX4_sheet_50 (by decide) (fun c5 => ?_) (fun c5 => ?_)
    · refine r_aload_n C dX4_sheet_59 0 0 rfl rfl ?_
      refine gf_X4_38 C dX4_sheet_60 ?_
      refine r_iload_n C dX4_sheet_63 1 1 rfl rfl ?_
      refine r_guard (fun h6 => ?_)
      refine ald_T C h6 dX4_sheet_64 ?_
      refine r_iload_n C dX4_sheet_65 2 2 rfl rfl ?_
      refine r_iload_n C dX4_sheet_66 2 2 rfl rfl ?_
      refine r_sel (tj := 75) (sj := [.int (if x2 = 0 then 0 else x3 : Int32), .int x2, .ref (zA Z (20 + ix x1) 0)]) ?_ (fun k8 => ?_)
      · refine r_lv [0, 1] (lv' := [(0, .ref (zA Z 8 0)), (1, .int x1)]) rfl ?_
        exact bX4_sheet_75 C M N x1 (if x2 = 0 then 0 else x3 : Int32) x2 (20 + ix x1) (gS h6)
      · refine r_same (P := x2 = 0) ?_
        refine r_if_ne (tgt := 74) C dX4_sheet_67 (by decide) (fun c7 => ?_) (fun c7 => ?_)
        · refine r_iload_n C dX4_sheet_74 3 3 rfl rfl ?_
          exact r_stk (if_neg c7) k8
        · refine r_iconst (v := 0) C dX4_sheet_70 (by decide) ?_
          refine r_goto (tgt := 75) C dX4_sheet_71 (by decide) ?_
          exact r_stk (if_pos c7) k8
    · refine r_aload_n C dX4_sheet_53 0 0 rfl rfl ?_
      refine r_iconst (v := 0) C dX4_sheet_54 (by decide) ?_
      refine r_bind (fun a11 ha11 => ?_)
      refine r_callV (rest := []) (st2 := [.int a11.1]) C (mX4_finding (eL E) C.z M N 0 a11 ha11) lk_X4_58 (rvX C) (by decide) rfl rfl (Nat.le_of_ble_eq_true rfl) dX4_sheet_55 rfl ?_
      exact r_iret C dX4_sheet_58 rfl
  · refine r_aload_n C dX4_sheet_40 0 0 rfl rfl ?_
    refine r_bipush (v := 6) C dX4_sheet_41 (by decide) ?_
    refine r_bind (fun a12 ha12 => ?_)
    refine r_callV (rest := []) (st2 := [.int a12.1]) C (mX4_finding (eL E) C.z M N 6 a12 ha12) lk_X4_58 (rvX C) (by decide) rfl rfl (Nat.le_of_ble_eq_true rfl) dX4_sheet_43 rfl ?_
    exact r_iret C dX4_sheet_46 rfl
noncomputable def fX4_sheet   (M : Mi) (N : Ml) (x1 : Int32) (x2 : Int32) (x3 : Int32) : Option (Int32 × Mi × Ml) := (if (fX4_isBelow x1 4) = 0 then (fX4_sheet_30 M N) else (if x2 = 0 then (fX4_sheet_36 M N x1 x2 x3) else (if x2 = 8 then (fX4_sheet_36 M N x1 x2 x3) else (if x2 = 16 then (fX4_sheet_36 M N x1 x2 x3) else (if x2 = 64 then (fX4_sheet_36 M N x1 x2 x3) else (fX4_sheet_30 M N))))))
theorem bX4_sheet {Z : Zt} {E : Ec}  (C : Ok 1 Z E cX4_sheet 4 RX4 (some .int) 1)    (M : Mi) (N : Ml) (x1 : Int32) (x2 : Int32) (x3 : Int32)  : GT Z E 4 finX4_sheet 0 [(0, .ref (zA Z 8 0)), (1, .int x1), (2, .int x2), (3, .int x3)] [] M N (fX4_sheet M N x1 x2 x3) := by
  unfold fX4_sheet
  refine r_iload_n C dX4_sheet_0 1 1 rfl rfl ?_
  refine r_iconst (v := 4) C dX4_sheet_1 (by decide) ?_
  refine r_callS (rest := []) (st2 := [.int (fX4_isBelow x1 4)]) C (mX4_isBelow (eL E) C.z _ _ x1 4) lk_X4_69 (by decide) rfl rfl (Nat.le_of_ble_eq_true rfl) dX4_sheet_2 rfl ?_
  refine r_if_eq (tgt := 30) C dX4_sheet_5 (by decide) (fun c1 => ?_) (fun c1 => ?_)
  · refine r_lv [0] (lv' := [(0, .ref (zA Z 8 0))]) rfl ?_
    exact bX4_sheet_30 C M N
  · refine r_iload_n C dX4_sheet_8 2 2 rfl rfl ?_
    refine r_if_eq (tgt := 36) C dX4_sheet_9 (by decide) (fun c3 => ?_) (fun c3 => ?_)
    · exact bX4_sheet_36 C M N x1 x2 x3
    · refine r_iload_n C dX4_sheet_12 2 2 rfl rfl ?_
      refine r_bipush (v := 8) C dX4_sheet_13 (by decide) ?_
      refine r_ic_eq (tgt := 36) C dX4_sheet_15 (by decide) (fun c13 => ?_) (fun c13 => ?_)
      · exact bX4_sheet_36 C M N x1 x2 x3
      · refine r_iload_n C dX4_sheet_18 2 2 rfl rfl ?_
        refine r_bipush (v := 16) C dX4_sheet_19 (by decide) ?_
        refine r_ic_eq (tgt := 36) C dX4_sheet_21 (by decide) (fun c14 => ?_) (fun c14 => ?_)
        · exact bX4_sheet_36 C M N x1 x2 x3
        · refine r_iload_n C dX4_sheet_24 2 2 rfl rfl ?_
          refine r_bipush (v := 64) C dX4_sheet_25 (by decide) ?_
          refine r_ic_eq (tgt := 36) C dX4_sheet_27 (by decide) (fun c15 => ?_) (fun c15 => ?_)
          · exact bX4_sheet_36 C M N x1 x2 x3
          · refine r_lv [0] (lv' := [(0, .ref (zA Z 8 0))]) rfl ?_
            exact bX4_sheet_30 C M N
theorem mX4_sheet (l : Launch) {Z : Zt} (hZ : Zok 1 Z) (M : Mi) (N : Ml) (x1 : Int32) (x2 : Int32) (x3 : Int32) (b : Int32 × Mi × Ml) (hb : fX4_sheet M N x1 x2 x3 = some b) : Ct 1 Z l yX4_sheet cX4_sheet 4 (some .int) 1 [.ref (zA Z 8 0), .int x1, .int x2, .int x3] M N (some (Value.int b.1), b.2.1, b.2.2) :=
  metG (fin := finX4_sheet) (by decide) (Nat.le_of_ble_eq_true rfl) (fun E _ C => bX4_sheet C M N x1 x2 x3) hb
theorem dX4_askOfSheet_0 : decode cX4_askOfSheet 0 = .ok (.iload_n 1, 1) := by decide +kernel
theorem dX4_askOfSheet_1 : decode cX4_askOfSheet 1 = .ok (.iconst 4, 1) := by decide +kernel
theorem dX4_askOfSheet_2 : decode cX4_askOfSheet 2 = .ok (.invokestatic 69, 3) := by decide +kernel
theorem dX4_askOfSheet_5 : decode cX4_askOfSheet 5 = .ok (.ifCond .ne 9, 3) := by decide +kernel
theorem dX4_askOfSheet_8 : decode cX4_askOfSheet 8 = .ok (.aload_n 0, 1) := by decide +kernel
theorem dX4_askOfSheet_9 : decode cX4_askOfSheet 9 = .ok (.iconst 0, 1) := by decide +kernel
theorem dX4_askOfSheet_10 : decode cX4_askOfSheet 10 = .ok (.invokevirtual 58, 3) := by decide +kernel
theorem dX4_askOfSheet_13 : decode cX4_askOfSheet 13 = .ok (.ireturn, 1) := by decide +kernel
theorem dX4_askOfSheet_14 : decode cX4_askOfSheet 14 = .ok (.aload_n 0, 1) := by decide +kernel
theorem dX4_askOfSheet_15 : decode cX4_askOfSheet 15 = .ok (.getfield 38, 3) := by decide +kernel
theorem dX4_askOfSheet_18 : decode cX4_askOfSheet 18 = .ok (.iload_n 1, 1) := by decide +kernel
theorem dX4_askOfSheet_19 : decode cX4_askOfSheet 19 = .ok (.aaload, 1) := by decide +kernel
theorem dX4_askOfSheet_20 : decode cX4_askOfSheet 20 = .ok (.invokevirtual 246, 3) := by decide +kernel
theorem dX4_askOfSheet_23 : decode cX4_askOfSheet 23 = .ok (.ifCond .eq 11, 3) := by decide +kernel
theorem dX4_askOfSheet_26 : decode cX4_askOfSheet 26 = .ok (.aload_n 0, 1) := by decide +kernel
theorem dX4_askOfSheet_27 : decode cX4_askOfSheet 27 = .ok (.iconst 5, 1) := by decide +kernel
theorem dX4_askOfSheet_28 : decode cX4_askOfSheet 28 = .ok (.invokevirtual 58, 3) := by decide +kernel
theorem dX4_askOfSheet_31 : decode cX4_askOfSheet 31 = .ok (.goto 4, 3) := by decide +kernel
theorem dX4_askOfSheet_34 : decode cX4_askOfSheet 34 = .ok (.iconst 0, 1) := by decide +kernel
theorem dX4_askOfSheet_35 : decode cX4_askOfSheet 35 = .ok (.ireturn, 1) := by decide +kernel
def finX4_askOfSheet (N : Ml) : Int32 × Mi → Option Value × Mi × Ml := fun b => (some (Value.int b.1), b.2, N)
noncomputable def fX4_askOfSheet   (M : Mi) (x1 : Int32) : Option (Int32 × Mi) := (if (fX4_isBelow x1 4) = 0 then (Option.bind (fX4_finding M 0) (fun a5 => (some (a5.1, (a5.2))))) else (if inb x1 4 then (if (fX2_isMissing M (20 + ix x1)) = 0 then (some (0, M)) else (Option.bind (fX4_finding M 5) (fun a4 => (some (a4.1, (a4.2)))))) else none))
theorem bX4_askOfSheet {Z : Zt} {E : Ec} {N : Ml} (C : Ok 1 Z E cX4_askOfSheet 2 RX4 (some .int) 1)    (M : Mi) (x1 : Int32)  : GT Z E 2 (finX4_askOfSheet N) 0 [(0, .ref (zA Z 8 0)), (1, .int x1)] [] M N (fX4_askOfSheet M x1) := by
  unfold fX4_askOfSheet
  refine r_iload_n C dX4_askOfSheet_0 1 1 rfl rfl ?_
  refine r_iconst (v := 4) C dX4_askOfSheet_1 (by decide) ?_
  refine r_callS (rest := []) (st2 := [.int (fX4_isBelow x1 4)]) C (mX4_isBelow (eL E) C.z _ _ x1 4) lk_X4_69 (by decide) rfl rfl (Nat.le_of_ble_eq_true rfl) dX4_askOfSheet_2 rfl ?_
  refine r_if_ne (tgt := 14) C dX4_askOfSheet_5 (by decide) (fun c1 => ?_) (fun c1 => ?_)
  · refine r_aload_n C dX4_askOfSheet_14 0 0 rfl rfl ?_
    refine gf_X4_38 C dX4_askOfSheet_15 ?_
    refine r_iload_n C dX4_askOfSheet_18 1 1 rfl rfl ?_
    refine r_guard (fun h2 => ?_)
    refine ald_T C h2 dX4_askOfSheet_19 ?_
    refine r_callV (rest := []) (st2 := [.int (fX2_isMissing M (20 + ix x1))]) C (mX2_isMissing (eL E) C.z (gS h2) M N (20 + ix x1)) lk_X4_246 (rvS C (gS h2)) (by decide) rfl rfl (Nat.le_of_ble_eq_true rfl) dX4_askOfSheet_20 rfl ?_
    refine r_if_eq (tgt := 34) C dX4_askOfSheet_23 (by decide) (fun c3 => ?_) (fun c3 => ?_)
    · refine r_iconst (v := 0) C dX4_askOfSheet_34 (by decide) ?_
      exact r_iret C dX4_askOfSheet_35 rfl
    · refine r_aload_n C dX4_askOfSheet_26 0 0 rfl rfl ?_
      refine r_iconst (v := 5) C dX4_askOfSheet_27 (by decide) ?_
      refine r_bind (fun a4 ha4 => ?_)
      refine r_callV (rest := []) (st2 := [.int a4.1]) C (mX4_finding (eL E) C.z M N 5 a4 ha4) lk_X4_58 (rvX C) (by decide) rfl rfl (Nat.le_of_ble_eq_true rfl) dX4_askOfSheet_28 rfl ?_
      refine r_goto (tgt := 35) C dX4_askOfSheet_31 (by decide) ?_
      exact r_iret C dX4_askOfSheet_35 rfl
  · refine r_aload_n C dX4_askOfSheet_8 0 0 rfl rfl ?_
    refine r_iconst (v := 0) C dX4_askOfSheet_9 (by decide) ?_
    refine r_bind (fun a5 ha5 => ?_)
    refine r_callV (rest := []) (st2 := [.int a5.1]) C (mX4_finding (eL E) C.z M N 0 a5 ha5) lk_X4_58 (rvX C) (by decide) rfl rfl (Nat.le_of_ble_eq_true rfl) dX4_askOfSheet_10 rfl ?_
    exact r_iret C dX4_askOfSheet_13 rfl
theorem mX4_askOfSheet (l : Launch) {Z : Zt} (hZ : Zok 1 Z) (M : Mi) (N : Ml) (x1 : Int32) (b : Int32 × Mi) (hb : fX4_askOfSheet M x1 = some b) : Ct 1 Z l yX4_askOfSheet cX4_askOfSheet 2 (some .int) 1 [.ref (zA Z 8 0), .int x1] M N (some (Value.int b.1), b.2, N) :=
  metG (fin := (finX4_askOfSheet N)) (by decide) (Nat.le_of_ble_eq_true rfl) (fun E _ C => bX4_askOfSheet C M x1) hb
theorem dX4_write_0 : decode cX4_write 0 = .ok (.aload_n 0, 1) := by decide +kernel
theorem dX4_write_1 : decode cX4_write 1 = .ok (.iload_n 1, 1) := by decide +kernel
theorem dX4_write_2 : decode cX4_write 2 = .ok (.invokevirtual 235, 3) := by decide +kernel
theorem dX4_write_5 : decode cX4_write 5 = .ok (.istore 5, 2) := by decide +kernel
theorem dX4_write_7 : decode cX4_write 7 = .ok (.iload 5, 2) := by decide +kernel
theorem dX4_write_9 : decode cX4_write 9 = .ok (.ifCond .eq 7, 3) := by decide +kernel
theorem dX4_write_12 : decode cX4_write 12 = .ok (.iload 5, 2) := by decide +kernel
theorem dX4_write_14 : decode cX4_write 14 = .ok (.i2l, 1) := by decide +kernel
theorem dX4_write_15 : decode cX4_write 15 = .ok (.lreturn, 1) := by decide +kernel
theorem dX4_write_16 : decode cX4_write 16 = .ok (.aload_n 0, 1) := by decide +kernel
theorem dX4_write_17 : decode cX4_write 17 = .ok (.getfield 38, 3) := by decide +kernel
theorem dX4_write_20 : decode cX4_write 20 = .ok (.iload_n 1, 1) := by decide +kernel
theorem dX4_write_21 : decode cX4_write 21 = .ok (.aaload, 1) := by decide +kernel
theorem dX4_write_22 : decode cX4_write 22 = .ok (.astore 6, 2) := by decide +kernel
theorem dX4_write_24 : decode cX4_write 24 = .ok (.iload_n 2, 1) := by decide +kernel
theorem dX4_write_25 : decode cX4_write 25 = .ok (.aload 6, 2) := by decide +kernel
theorem dX4_write_27 : decode cX4_write 27 = .ok (.getfield 234, 3) := by decide +kernel
theorem dX4_write_30 : decode cX4_write 30 = .ok (.invokestatic 69, 3) := by decide +kernel
theorem dX4_write_33 : decode cX4_write 33 = .ok (.ifCond .ne 10, 3) := by decide +kernel
theorem dX4_write_36 : decode cX4_write 36 = .ok (.aload_n 0, 1) := by decide +kernel
theorem dX4_write_37 : decode cX4_write 37 = .ok (.iconst 0, 1) := by decide +kernel
theorem dX4_write_38 : decode cX4_write 38 = .ok (.invokevirtual 58, 3) := by decide +kernel
theorem dX4_write_41 : decode cX4_write 41 = .ok (.i2l, 1) := by decide +kernel
theorem dX4_write_42 : decode cX4_write 42 = .ok (.lreturn, 1) := by decide +kernel
theorem dX4_write_43 : decode cX4_write 43 = .ok (.aload 6, 2) := by decide +kernel
theorem dX4_write_45 : decode cX4_write 45 = .ok (.getfield 238, 3) := by decide +kernel
theorem dX4_write_48 : decode cX4_write 48 = .ok (.iload_n 2, 1) := by decide +kernel
theorem dX4_write_49 : decode cX4_write 49 = .ok (.laload, 1) := by decide +kernel
theorem dX4_write_50 : decode cX4_write 50 = .ok (.lstore 7, 2) := by decide +kernel
theorem dX4_write_52 : decode cX4_write 52 = .ok (.aload 6, 2) := by decide +kernel
theorem dX4_write_54 : decode cX4_write 54 = .ok (.getfield 238, 3) := by decide +kernel
theorem dX4_write_57 : decode cX4_write 57 = .ok (.iload_n 2, 1) := by decide +kernel
theorem dX4_write_58 : decode cX4_write 58 = .ok (.aload 6, 2) := by decide +kernel
theorem dX4_write_60 : decode cX4_write 60 = .ok (.lload_n 3, 1) := by decide +kernel
theorem dX4_write_61 : decode cX4_write 61 = .ok (.invokevirtual 242, 3) := by decide +kernel
theorem dX4_write_64 : decode cX4_write 64 = .ok (.lastore, 1) := by decide +kernel
theorem dX4_write_65 : decode cX4_write 65 = .ok (.lload 7, 2) := by decide +kernel
theorem dX4_write_67 : decode cX4_write 67 = .ok (.lreturn, 1) := by decide +kernel
def finX4_write  : Int64 × Mi × Ml → Option Value × Mi × Ml := fun b => (some (Value.long b.1), b.2.1, b.2.2)
noncomputable def fX4_write   (M : Mi) (N : Ml) (x1 : Int32) (x2 : Int32) (x3 : Int64) : Option (Int64 × Mi × Ml) := (Option.bind (fX4_askOfSheet M x1) (fun a1 => (if a1.1 = 0 then (if inb x1 4 then (if (fX4_isBelow x2 ((a1.2) (20 + ix x1) 1)) = 0 then (Option.bind (fX4_finding (a1.2) 0) (fun a6 => (some ((Int32.toInt64 a6.1), (a6.2), N)))) else (if inb x2 40 then (some ((N (20 + ix x1) (ix x2)), (a1.2), (wN N (20 + ix x1) (ix x2) (fX2_lowestBits (a1.2) (20 + ix x1) x3)))) else none)) else none) else (some ((Int32.toInt64 a1.1), (a1.2), N)))))
theorem bX4_write {Z : Zt} {E : Ec}  (C : Ok 1 Z E cX4_write 9 RX4 (some .long) 2)    (M : Mi) (N : Ml) (x1 : Int32) (x2 : Int32) (x3 : Int64)  : GT Z E 9 finX4_write 0 [(0, .ref (zA Z 8 0)), (1, .int x1), (2, .int x2), (3, .long x3)] [] M N (fX4_write M N x1 x2 x3) := by
  unfold fX4_write
  refine r_aload_n C dX4_write_0 0 0 rfl rfl ?_
  refine r_iload_n C dX4_write_1 1 1 rfl rfl ?_
  refine r_bind (fun a1 ha1 => ?_)
  refine r_callV (rest := []) (st2 := [.int a1.1]) C (mX4_askOfSheet (eL E) C.z M N x1 a1 ha1) lk_X4_235 (rvX C) (by decide) rfl rfl (Nat.le_of_ble_eq_true rfl) dX4_write_2 rfl ?_
  refine r_istore (lv' := [(5, .int a1.1), (0, .ref (zA Z 8 0)), (1, .int x1), (2, .int x2), (3, .long x3)]) C dX4_write_5 (by decide) rfl ?_
  refine r_iload C dX4_write_7 0 rfl ?_
  refine r_if_eq (tgt := 16) C dX4_write_9 (by decide) (fun c2 => ?_) (fun c2 => ?_)
  · refine r_aload_n C dX4_write_16 0 1 rfl rfl ?_
    refine gf_X4_38 C dX4_write_17 ?_
    refine r_iload_n C dX4_write_20 1 2 rfl rfl ?_
    refine r_guard (fun h3 => ?_)
    refine ald_T C h3 dX4_write_21 ?_
    refine r_astore (lv' := [(6, .ref (zA Z (20 + ix x1) 0)), (5, .int a1.1), (0, .ref (zA Z 8 0)), (1, .int x1), (2, .int x2), (3, .long x3)]) C dX4_write_22 (by decide) rfl ?_
    refine r_iload_n C dX4_write_24 2 4 rfl rfl ?_
    refine r_aload C dX4_write_25 0 rfl ?_
    refine gf_X4_234 (v := ((a1.2) (20 + ix x1) 1)) C (gS h3) dX4_write_27 rfl ?_
    refine r_callS (rest := []) (st2 := [.int (fX4_isBelow x2 ((a1.2) (20 + ix x1) 1))]) C (mX4_isBelow (eL E) C.z _ _ x2 ((a1.2) (20 + ix x1) 1)) lk_X4_69 (by decide) rfl rfl (Nat.le_of_ble_eq_true rfl) dX4_write_30 rfl ?_
    refine r_if_ne (tgt := 43) C dX4_write_33 (by decide) (fun c4 => ?_) (fun c4 => ?_)
    · refine r_aload C dX4_write_43 0 rfl ?_
      refine gf_X4_238 C (gS h3) dX4_write_45 ?_
      refine r_iload_n C dX4_write_48 2 4 rfl rfl ?_
      refine r_guard (fun h5 => ?_)
      refine ald_S (v := (N (20 + ix x1) (ix x2))) C (gS h3) h5 rfl dX4_write_49 ?_
      refine r_lstore (lv' := [(7, .long (N (20 + ix x1) (ix x2))), (6, .ref (zA Z (20 + ix x1) 0)), (5, .int a1.1), (0, .ref (zA Z 8 0)), (1, .int x1), (2, .int x2), (3, .long x3)]) C dX4_write_50 (by decide) rfl ?_
      refine r_aload C dX4_write_52 1 rfl ?_
      refine gf_X4_238 C (gS h3) dX4_write_54 ?_
      refine r_iload_n C dX4_write_57 2 5 rfl rfl ?_
      refine r_aload C dX4_write_58 1 rfl ?_
      refine r_lload_n C dX4_write_60 3 6 rfl rfl ?_
      refine r_callV (rest := [.int x2, .ref (zA Z (20 + ix x1) 1)]) (st2 := [.long (fX2_lowestBits (a1.2) (20 + ix x1) x3), .int x2, .ref (zA Z (20 + ix x1) 1)]) C (mX2_lowestBits (eL E) C.z (gS h3) (a1.2) N (20 + ix x1) x3) lk_X4_242 (rvS C (gS h3)) (by decide) rfl rfl (Nat.le_of_ble_eq_true rfl) dX4_write_61 rfl ?_
      refine ast_S (N' := (wN N (20 + ix x1) (ix x2) (fX2_lowestBits (a1.2) (20 + ix x1) x3))) C (gS h3) h5 rfl dX4_write_64 ?_
      refine r_lload C dX4_write_65 0 rfl ?_
      exact r_lret C dX4_write_67 rfl
    · refine r_aload_n C dX4_write_36 0 2 rfl rfl ?_
      refine r_iconst (v := 0) C dX4_write_37 (by decide) ?_
      refine r_bind (fun a6 ha6 => ?_)
      refine r_callV (rest := []) (st2 := [.int a6.1]) C (mX4_finding (eL E) C.z (a1.2) N 0 a6 ha6) lk_X4_58 (rvX C) (by decide) rfl rfl (Nat.le_of_ble_eq_true rfl) dX4_write_38 rfl ?_
      refine r_i2l C dX4_write_41 ?_
      exact r_lret C dX4_write_42 rfl
  · refine r_iload C dX4_write_12 0 rfl ?_
    refine r_i2l C dX4_write_14 ?_
    exact r_lret C dX4_write_15 rfl
theorem mX4_write (l : Launch) {Z : Zt} (hZ : Zok 1 Z) (M : Mi) (N : Ml) (x1 : Int32) (x2 : Int32) (x3 : Int64) (b : Int64 × Mi × Ml) (hb : fX4_write M N x1 x2 x3 = some b) : Ct 1 Z l yX4_write cX4_write 9 (some .long) 2 [.ref (zA Z 8 0), .int x1, .int x2, .long x3] M N (some (Value.long b.1), b.2.1, b.2.2) :=
  metG (fin := finX4_write) (by decide) (Nat.le_of_ble_eq_true rfl) (fun E _ C => bX4_write C M N x1 x2 x3) hb
theorem dX4_copy_0 : decode cX4_copy 0 = .ok (.iload_n 1, 1) := by decide +kernel
theorem dX4_copy_1 : decode cX4_copy 1 = .ok (.iconst 4, 1) := by decide +kernel
theorem dX4_copy_2 : decode cX4_copy 2 = .ok (.invokestatic 69, 3) := by decide +kernel
theorem dX4_copy_5 : decode cX4_copy 5 = .ok (.ifCond .eq 11, 3) := by decide +kernel
theorem dX4_copy_8 : decode cX4_copy 8 = .ok (.iload_n 3, 1) := by decide +kernel
theorem dX4_copy_9 : decode cX4_copy 9 = .ok (.iconst 4, 1) := by decide +kernel
theorem dX4_copy_10 : decode cX4_copy 10 = .ok (.invokestatic 69, 3) := by decide +kernel
theorem dX4_copy_13 : decode cX4_copy 13 = .ok (.ifCond .ne 9, 3) := by decide +kernel
theorem dX4_copy_16 : decode cX4_copy 16 = .ok (.aload_n 0, 1) := by decide +kernel
theorem dX4_copy_17 : decode cX4_copy 17 = .ok (.iconst 0, 1) := by decide +kernel
theorem dX4_copy_18 : decode cX4_copy 18 = .ok (.invokevirtual 58, 3) := by decide +kernel
theorem dX4_copy_21 : decode cX4_copy 21 = .ok (.ireturn, 1) := by decide +kernel
theorem dX4_copy_22 : decode cX4_copy 22 = .ok (.aload_n 0, 1) := by decide +kernel
theorem dX4_copy_23 : decode cX4_copy 23 = .ok (.getfield 38, 3) := by decide +kernel
theorem dX4_copy_26 : decode cX4_copy 26 = .ok (.iload_n 1, 1) := by decide +kernel
theorem dX4_copy_27 : decode cX4_copy 27 = .ok (.aaload, 1) := by decide +kernel
theorem dX4_copy_28 : decode cX4_copy 28 = .ok (.astore 6, 2) := by decide +kernel
theorem dX4_copy_30 : decode cX4_copy 30 = .ok (.aload_n 0, 1) := by decide +kernel
theorem dX4_copy_31 : decode cX4_copy 31 = .ok (.getfield 38, 3) := by decide +kernel
theorem dX4_copy_34 : decode cX4_copy 34 = .ok (.iload_n 3, 1) := by decide +kernel
theorem dX4_copy_35 : decode cX4_copy 35 = .ok (.aaload, 1) := by decide +kernel
theorem dX4_copy_36 : decode cX4_copy 36 = .ok (.astore 7, 2) := by decide +kernel
theorem dX4_copy_38 : decode cX4_copy 38 = .ok (.aload 6, 2) := by decide +kernel
theorem dX4_copy_40 : decode cX4_copy 40 = .ok (.invokevirtual 246, 3) := by decide +kernel
theorem dX4_copy_43 : decode cX4_copy 43 = .ok (.ifCond .ne 11, 3) := by decide +kernel
theorem dX4_copy_46 : decode cX4_copy 46 = .ok (.aload 7, 2) := by decide +kernel
theorem dX4_copy_48 : decode cX4_copy 48 = .ok (.invokevirtual 246, 3) := by decide +kernel
theorem dX4_copy_51 : decode cX4_copy 51 = .ok (.ifCond .eq 9, 3) := by decide +kernel
theorem dX4_copy_54 : decode cX4_copy 54 = .ok (.aload_n 0, 1) := by decide +kernel
theorem dX4_copy_55 : decode cX4_copy 55 = .ok (.iconst 5, 1) := by decide +kernel
theorem dX4_copy_56 : decode cX4_copy 56 = .ok (.invokevirtual 58, 3) := by decide +kernel
theorem dX4_copy_59 : decode cX4_copy 59 = .ok (.ireturn, 1) := by decide +kernel
theorem dX4_copy_60 : decode cX4_copy 60 = .ok (.aload 6, 2) := by decide +kernel
theorem dX4_copy_62 : decode cX4_copy 62 = .ok (.getfield 249, 3) := by decide +kernel
theorem dX4_copy_65 : decode cX4_copy 65 = .ok (.aload 7, 2) := by decide +kernel
theorem dX4_copy_67 : decode cX4_copy 67 = .ok (.getfield 249, 3) := by decide +kernel
theorem dX4_copy_70 : decode cX4_copy 70 = .ok (.if_icmp .eq 9, 3) := by decide +kernel
theorem dX4_copy_73 : decode cX4_copy 73 = .ok (.aload_n 0, 1) := by decide +kernel
theorem dX4_copy_74 : decode cX4_copy 74 = .ok (.iconst 2, 1) := by decide +kernel
theorem dX4_copy_75 : decode cX4_copy 75 = .ok (.invokevirtual 58, 3) := by decide +kernel
theorem dX4_copy_78 : decode cX4_copy 78 = .ok (.ireturn, 1) := by decide +kernel
theorem dX4_copy_79 : decode cX4_copy 79 = .ok (.aload 6, 2) := by decide +kernel
theorem dX4_copy_81 : decode cX4_copy 81 = .ok (.iload_n 2, 1) := by decide +kernel
theorem dX4_copy_82 : decode cX4_copy 82 = .ok (.iload 5, 2) := by decide +kernel
theorem dX4_copy_84 : decode cX4_copy 84 = .ok (.invokevirtual 252, 3) := by decide +kernel
theorem dX4_copy_87 : decode cX4_copy 87 = .ok (.ifCond .eq 15, 3) := by decide +kernel
theorem dX4_copy_90 : decode cX4_copy 90 = .ok (.aload 7, 2) := by decide +kernel
theorem dX4_copy_92 : decode cX4_copy 92 = .ok (.iload 4, 2) := by decide +kernel
theorem dX4_copy_94 : decode cX4_copy 94 = .ok (.iload 5, 2) := by decide +kernel
theorem dX4_copy_96 : decode cX4_copy 96 = .ok (.invokevirtual 252, 3) := by decide +kernel
theorem dX4_copy_99 : decode cX4_copy 99 = .ok (.ifCond .ne 9, 3) := by decide +kernel
theorem dX4_copy_102 : decode cX4_copy 102 = .ok (.aload_n 0, 1) := by decide +kernel
theorem dX4_copy_103 : decode cX4_copy 103 = .ok (.iconst 0, 1) := by decide +kernel
theorem dX4_copy_104 : decode cX4_copy 104 = .ok (.invokevirtual 58, 3) := by decide +kernel
theorem dX4_copy_107 : decode cX4_copy 107 = .ok (.ireturn, 1) := by decide +kernel
theorem dX4_copy_108 : decode cX4_copy 108 = .ok (.aload 6, 2) := by decide +kernel
theorem dX4_copy_110 : decode cX4_copy 110 = .ok (.getfield 238, 3) := by decide +kernel
theorem dX4_copy_113 : decode cX4_copy 113 = .ok (.iload_n 2, 1) := by decide +kernel
theorem dX4_copy_114 : decode cX4_copy 114 = .ok (.aload 7, 2) := by decide +kernel
theorem dX4_copy_116 : decode cX4_copy 116 = .ok (.getfield 238, 3) := by decide +kernel
theorem dX4_copy_119 : decode cX4_copy 119 = .ok (.iload 4, 2) := by decide +kernel
theorem dX4_copy_121 : decode cX4_copy 121 = .ok (.iload 5, 2) := by decide +kernel
theorem dX4_copy_123 : decode cX4_copy 123 = .ok (.invokestatic 255, 3) := by decide +kernel
theorem dX4_copy_126 : decode cX4_copy 126 = .ok (.iload 5, 2) := by decide +kernel
theorem dX4_copy_128 : decode cX4_copy 128 = .ok (.ireturn, 1) := by decide +kernel
def finX4_copy  : Int32 × Mi × Ml → Option Value × Mi × Ml := fun b => (some (Value.int b.1), b.2.1, b.2.2)
noncomputable def fX4_copy_16   (M : Mi) (N : Ml) : Option (Int32 × Mi × Ml) := (Option.bind (fX4_finding M 0) (fun a2 => (some (a2.1, (a2.2), N))))
theorem bX4_copy_16 {Z : Zt} {E : Ec}  (C : Ok 1 Z E cX4_copy 8 RX4 (some .int) 1)    (M : Mi) (N : Ml)  : GT Z E 8 finX4_copy 16 [(0, .ref (zA Z 8 0))] [] M N (fX4_copy_16 M N) := by
  unfold fX4_copy_16
  refine r_aload_n C dX4_copy_16 0 0 rfl rfl ?_
  refine r_iconst (v := 0) C dX4_copy_17 (by decide) ?_
  refine r_bind (fun a2 ha2 => ?_)
  refine r_callV (rest := []) (st2 := [.int a2.1]) C (mX4_finding (eL E) C.z M N 0 a2 ha2) lk_X4_58 (rvX C) (by decide) rfl rfl (Nat.le_of_ble_eq_true rfl) dX4_copy_18 rfl ?_
  exact r_iret C dX4_copy_21 rfl
noncomputable def fX4_copy_54   (M : Mi) (N : Ml) : Option (Int32 × Mi × Ml) := (Option.bind (fX4_finding M 5) (fun a7 => (some (a7.1, (a7.2), N))))
theorem bX4_copy_54 {Z : Zt} {E : Ec}  (C : Ok 1 Z E cX4_copy 8 RX4 (some .int) 1)    (M : Mi) (N : Ml)  : GT Z E 8 finX4_copy 54 [(0, .ref (zA Z 8 0))] [] M N (fX4_copy_54 M N) := by
  unfold fX4_copy_54
  refine r_aload_n C dX4_copy_54 0 0 rfl rfl ?_
  refine r_iconst (v := 5) C dX4_copy_55 (by decide) ?_
  refine r_bind (fun a7 ha7 => ?_)
  refine r_callV (rest := []) (st2 := [.int a7.1]) C (mX4_finding (eL E) C.z M N 5 a7 ha7) lk_X4_58 (rvX C) (by decide) rfl rfl (Nat.le_of_ble_eq_true rfl) dX4_copy_56 rfl ?_
  exact r_iret C dX4_copy_59 rfl
noncomputable def fX4_copy_102   (M : Mi) (N : Ml) : Option (Int32 × Mi × Ml) := (Option.bind (fX4_finding M 0) (fun a11 => (some (a11.1, (a11.2), N))))
theorem bX4_copy_102 {Z : Zt} {E : Ec}  (C : Ok 1 Z E cX4_copy 8 RX4 (some .int) 1)    (M : Mi) (N : Ml)  : GT Z E 8 finX4_copy 102 [(0, .ref (zA Z 8 0))] [] M N (fX4_copy_102 M N) := by
  unfold fX4_copy_102
  refine r_aload_n C dX4_copy_102 0 0 rfl rfl ?_
  refine r_iconst (v := 0) C dX4_copy_103 (by decide) ?_
  refine r_bind (fun a11 ha11 => ?_)
  refine r_callV (rest := []) (st2 := [.int a11.1]) C (mX4_finding (eL E) C.z M N 0 a11 ha11) lk_X4_58 (rvX C) (by decide) rfl rfl (Nat.le_of_ble_eq_true rfl) dX4_copy_104 rfl ?_
  exact r_iret C dX4_copy_107 rfl
noncomputable def fX4_copy   (M : Mi) (N : Ml) (x1 : Int32) (x2 : Int32) (x3 : Int32) (x4 : Int32) (x5 : Int32) : Option (Int32 × Mi × Ml) := (if (fX4_isBelow x1 4) = 0 then (fX4_copy_16 M N) else (if (fX4_isBelow x3 4) = 0 then (fX4_copy_16 M N) else (if inb x1 4 then (if inb x3 4 then (if (fX2_isMissing M (20 + ix x1)) = 0 then (if (fX2_isMissing M (20 + ix x3)) = 0 then (if (M (20 + ix x1) 0) = (M (20 + ix x3) 0) then (if (fX2_hasFrom M (20 + ix x1) x2 x5) = 0 then (fX4_copy_102 M N) else (if (fX2_hasFrom M (20 + ix x3) x4 x5) = 0 then (fX4_copy_102 M N) else (if cpOk x2 x4 x5 then (some (x5, M, (sR N (20 + ix x3) (va_cpy (N (20 + ix x1)) (N (20 + ix x3)) (ix x2) (ix x4) (ix x5))))) else none))) else (Option.bind (fX4_finding M 2) (fun a14 => (some (a14.1, (a14.2), N))))) else (fX4_copy_54 M N)) else (fX4_copy_54 M N)) else none) else none)))
theorem bX4_copy {Z : Zt} {E : Ec}  (C : Ok 1 Z E cX4_copy 8 RX4 (some .int) 1)    (M : Mi) (N : Ml) (x1 : Int32) (x2 : Int32) (x3 : Int32) (x4 : Int32) (x5 : Int32)  : GT Z E 8 finX4_copy 0 [(0, .ref (zA Z 8 0)), (1, .int x1), (2, .int x2), (3, .int x3), (4, .int x4), (5, .int x5)] [] M N (fX4_copy M N x1 x2 x3 x4 x5) := by
  unfold fX4_copy
  refine r_iload_n C dX4_copy_0 1 1 rfl rfl ?_
  refine r_iconst (v := 4) C dX4_copy_1 (by decide) ?_
  refine r_callS (rest := []) (st2 := [.int (fX4_isBelow x1 4)]) C (mX4_isBelow (eL E) C.z _ _ x1 4) lk_X4_69 (by decide) rfl rfl (Nat.le_of_ble_eq_true rfl) dX4_copy_2 rfl ?_
  refine r_if_eq (tgt := 16) C dX4_copy_5 (by decide) (fun c1 => ?_) (fun c1 => ?_)
  · refine r_lv [0] (lv' := [(0, .ref (zA Z 8 0))]) rfl ?_
    exact bX4_copy_16 C M N
  · refine r_iload_n C dX4_copy_8 3 3 rfl rfl ?_
    refine r_iconst (v := 4) C dX4_copy_9 (by decide) ?_
    refine r_callS (rest := []) (st2 := [.int (fX4_isBelow x3 4)]) C (mX4_isBelow (eL E) C.z _ _ x3 4) lk_X4_69 (by decide) rfl rfl (Nat.le_of_ble_eq_true rfl) dX4_copy_10 rfl ?_
    refine r_if_ne (tgt := 22) C dX4_copy_13 (by decide) (fun c3 => ?_) (fun c3 => ?_)
    · refine r_aload_n C dX4_copy_22 0 0 rfl rfl ?_
      refine gf_X4_38 C dX4_copy_23 ?_
      refine r_iload_n C dX4_copy_26 1 1 rfl rfl ?_
      refine r_guard (fun h4 => ?_)
      refine ald_T C h4 dX4_copy_27 ?_
      refine r_astore (lv' := [(6, .ref (zA Z (20 + ix x1) 0)), (0, .ref (zA Z 8 0)), (1, .int x1), (2, .int x2), (3, .int x3), (4, .int x4), (5, .int x5)]) C dX4_copy_28 (by decide) rfl ?_
      refine r_aload_n C dX4_copy_30 0 1 rfl rfl ?_
      refine gf_X4_38 C dX4_copy_31 ?_
      refine r_iload_n C dX4_copy_34 3 4 rfl rfl ?_
      refine r_guard (fun h5 => ?_)
      refine ald_T C h5 dX4_copy_35 ?_
      refine r_astore (lv' := [(7, .ref (zA Z (20 + ix x3) 0)), (6, .ref (zA Z (20 + ix x1) 0)), (0, .ref (zA Z 8 0)), (1, .int x1), (2, .int x2), (3, .int x3), (4, .int x4), (5, .int x5)]) C dX4_copy_36 (by decide) rfl ?_
      refine r_aload C dX4_copy_38 1 rfl ?_
      refine r_callV (rest := []) (st2 := [.int (fX2_isMissing M (20 + ix x1))]) C (mX2_isMissing (eL E) C.z (gS h4) M N (20 + ix x1)) lk_X4_246 (rvS C (gS h4)) (by decide) rfl rfl (Nat.le_of_ble_eq_true rfl) dX4_copy_40 rfl ?_
      refine r_if_ne (tgt := 54) C dX4_copy_43 (by decide) (fun c6 => ?_) (fun c6 => ?_)
      · refine r_lv [2] (lv' := [(0, .ref (zA Z 8 0))]) rfl ?_
        exact bX4_copy_54 C M N
      · refine r_aload C dX4_copy_46 0 rfl ?_
        refine r_callV (rest := []) (st2 := [.int (fX2_isMissing M (20 + ix x3))]) C (mX2_isMissing (eL E) C.z (gS h5) M N (20 + ix x3)) lk_X4_246 (rvS C (gS h5)) (by decide) rfl rfl (Nat.le_of_ble_eq_true rfl) dX4_copy_48 rfl ?_
        refine r_if_eq (tgt := 60) C dX4_copy_51 (by decide) (fun c8 => ?_) (fun c8 => ?_)
        · refine r_aload C dX4_copy_60 1 rfl ?_
          refine gf_X4_249 (v := (M (20 + ix x1) 0)) C (gS h4) dX4_copy_62 rfl ?_
          refine r_aload C dX4_copy_65 0 rfl ?_
          refine gf_X4_249 (v := (M (20 + ix x3) 0)) C (gS h5) dX4_copy_67 rfl ?_
          refine r_ic_eq (tgt := 79) C dX4_copy_70 (by decide) (fun c9 => ?_) (fun c9 => ?_)
          · refine r_aload C dX4_copy_79 1 rfl ?_
            refine r_iload_n C dX4_copy_81 2 4 rfl rfl ?_
            refine r_iload C dX4_copy_82 7 rfl ?_
            refine r_callV (rest := []) (st2 := [.int (fX2_hasFrom M (20 + ix x1) x2 x5)]) C (mX2_hasFrom (eL E) C.z (gS h4) M N (20 + ix x1) x2 x5) lk_X4_252 (rvS C (gS h4)) (by decide) rfl rfl (Nat.le_of_ble_eq_true rfl) dX4_copy_84 rfl ?_
            refine r_if_eq (tgt := 102) C dX4_copy_87 (by decide) (fun c10 => ?_) (fun c10 => ?_)
            · refine r_lv [2] (lv' := [(0, .ref (zA Z 8 0))]) rfl ?_
              exact bX4_copy_102 C M N
            · refine r_aload C dX4_copy_90 0 rfl ?_
              refine r_iload C dX4_copy_92 6 rfl ?_
              refine r_iload C dX4_copy_94 7 rfl ?_
              refine r_callV (rest := []) (st2 := [.int (fX2_hasFrom M (20 + ix x3) x4 x5)]) C (mX2_hasFrom (eL E) C.z (gS h5) M N (20 + ix x3) x4 x5) lk_X4_252 (rvS C (gS h5)) (by decide) rfl rfl (Nat.le_of_ble_eq_true rfl) dX4_copy_96 rfl ?_
              refine r_if_ne (tgt := 108) C dX4_copy_99 (by decide) (fun c12 => ?_) (fun c12 => ?_)
              · refine r_aload C dX4_copy_108 1 rfl ?_
                refine gf_X4_238 C (gS h4) dX4_copy_110 ?_
                refine r_iload_n C dX4_copy_113 2 4 rfl rfl ?_
                refine r_aload C dX4_copy_114 0 rfl ?_
                refine gf_X4_238 C (gS h5) dX4_copy_116 ?_
                refine r_iload C dX4_copy_119 6 rfl ?_
                refine r_iload C dX4_copy_121 7 rfl ?_
                refine r_guard (fun h13 => ?_)
                refine r_copy (N' := (sR N (20 + ix x3) (va_cpy (N (20 + ix x1)) (N (20 + ix x3)) (ix x2) (ix x4) (ix x5)))) C (by decide) (gS h4) (gS h5) h13 rfl dX4_copy_123 ?_
                refine r_iload C dX4_copy_126 7 rfl ?_
                exact r_iret C dX4_copy_128 rfl
              · refine r_lv [2] (lv' := [(0, .ref (zA Z 8 0))]) rfl ?_
                exact bX4_copy_102 C M N
          · refine r_aload_n C dX4_copy_73 0 2 rfl rfl ?_
            refine r_iconst (v := 2) C dX4_copy_74 (by decide) ?_
            refine r_bind (fun a14 ha14 => ?_)
            refine r_callV (rest := []) (st2 := [.int a14.1]) C (mX4_finding (eL E) C.z M N 2 a14 ha14) lk_X4_58 (rvX C) (by decide) rfl rfl (Nat.le_of_ble_eq_true rfl) dX4_copy_75 rfl ?_
            exact r_iret C dX4_copy_78 rfl
        · refine r_lv [2] (lv' := [(0, .ref (zA Z 8 0))]) rfl ?_
          exact bX4_copy_54 C M N
    · refine r_lv [0] (lv' := [(0, .ref (zA Z 8 0))]) rfl ?_
      exact bX4_copy_16 C M N
theorem mX4_copy (l : Launch) {Z : Zt} (hZ : Zok 1 Z) (M : Mi) (N : Ml) (x1 : Int32) (x2 : Int32) (x3 : Int32) (x4 : Int32) (x5 : Int32) (b : Int32 × Mi × Ml) (hb : fX4_copy M N x1 x2 x3 x4 x5 = some b) : Ct 1 Z l yX4_copy cX4_copy 8 (some .int) 1 [.ref (zA Z 8 0), .int x1, .int x2, .int x3, .int x4, .int x5] M N (some (Value.int b.1), b.2.1, b.2.2) :=
  metG (fin := finX4_copy) (by decide) (Nat.le_of_ble_eq_true rfl) (fun E _ C => bX4_copy C M N x1 x2 x3 x4 x5) hb
theorem dX4_laysBooks_0 : decode cX4_laysBooks 0 = .ok (.iconst 0, 1) := by decide +kernel
theorem dX4_laysBooks_1 : decode cX4_laysBooks 1 = .ok (.istore_n 2, 1) := by decide +kernel
theorem dX4_laysBooks_2 : decode cX4_laysBooks 2 = .ok (.iconst 0, 1) := by decide +kernel
theorem dX4_laysBooks_3 : decode cX4_laysBooks 3 = .ok (.istore_n 3, 1) := by decide +kernel
theorem dX4_laysBooks_4 : decode cX4_laysBooks 4 = .ok (.iload_n 3, 1) := by decide +kernel
theorem dX4_laysBooks_5 : decode cX4_laysBooks 5 = .ok (.aload_n 1, 1) := by decide +kernel
theorem dX4_laysBooks_6 : decode cX4_laysBooks 6 = .ok (.getfield 234, 3) := by decide +kernel
theorem dX4_laysBooks_9 : decode cX4_laysBooks 9 = .ok (.if_icmp .ge 59, 3) := by decide +kernel
theorem dX4_laysBooks_12 : decode cX4_laysBooks 12 = .ok (.iload_n 3, 1) := by decide +kernel
theorem dX4_laysBooks_13 : decode cX4_laysBooks 13 = .ok (.aload_n 0, 1) := by decide +kernel
theorem dX4_laysBooks_14 : decode cX4_laysBooks 14 = .ok (.getfield 12, 3) := by decide +kernel
theorem dX4_laysBooks_17 : decode cX4_laysBooks 17 = .ok (.getfield 272, 3) := by decide +kernel
theorem dX4_laysBooks_20 : decode cX4_laysBooks 20 = .ok (.if_icmp .ge 48, 3) := by decide +kernel
theorem dX4_laysBooks_23 : decode cX4_laysBooks 23 = .ok (.aload_n 1, 1) := by decide +kernel
theorem dX4_laysBooks_24 : decode cX4_laysBooks 24 = .ok (.getfield 238, 3) := by decide +kernel
theorem dX4_laysBooks_27 : decode cX4_laysBooks 27 = .ok (.iload_n 3, 1) := by decide +kernel
theorem dX4_laysBooks_28 : decode cX4_laysBooks 28 = .ok (.laload, 1) := by decide +kernel
theorem dX4_laysBooks_29 : decode cX4_laysBooks 29 = .ok (.lstore 4, 2) := by decide +kernel
theorem dX4_laysBooks_31 : decode cX4_laysBooks 31 = .ok (.lload 4, 2) := by decide +kernel
theorem dX4_laysBooks_33 : decode cX4_laysBooks 33 = .ok (.lconst 0, 1) := by decide +kernel
theorem dX4_laysBooks_34 : decode cX4_laysBooks 34 = .ok (.lcmp, 1) := by decide +kernel
theorem dX4_laysBooks_35 : decode cX4_laysBooks 35 = .ok (.ifCond .lt 27, 3) := by decide +kernel
theorem dX4_laysBooks_38 : decode cX4_laysBooks 38 = .ok (.lload 4, 2) := by decide +kernel
theorem dX4_laysBooks_40 : decode cX4_laysBooks 40 = .ok (.ldc2_w 285, 3) := by decide +kernel
theorem dX4_laysBooks_43 : decode cX4_laysBooks 43 = .ok (.lcmp, 1) := by decide +kernel
theorem dX4_laysBooks_44 : decode cX4_laysBooks 44 = .ok (.ifCond .gt 18, 3) := by decide +kernel
theorem dX4_laysBooks_47 : decode cX4_laysBooks 47 = .ok (.aload_n 0, 1) := by decide +kernel
theorem dX4_laysBooks_48 : decode cX4_laysBooks 48 = .ok (.getfield 12, 3) := by decide +kernel
theorem dX4_laysBooks_51 : decode cX4_laysBooks 51 = .ok (.getfield 110, 3) := by decide +kernel
theorem dX4_laysBooks_54 : decode cX4_laysBooks 54 = .ok (.iload_n 3, 1) := by decide +kernel
theorem dX4_laysBooks_55 : decode cX4_laysBooks 55 = .ok (.lload 4, 2) := by decide +kernel
theorem dX4_laysBooks_57 : decode cX4_laysBooks 57 = .ok (.l2i, 1) := by decide +kernel
theorem dX4_laysBooks_58 : decode cX4_laysBooks 58 = .ok (.iastore, 1) := by decide +kernel
theorem dX4_laysBooks_59 : decode cX4_laysBooks 59 = .ok (.iinc 2 1, 3) := by decide +kernel
theorem dX4_laysBooks_62 : decode cX4_laysBooks 62 = .ok (.iinc 3 1, 3) := by decide +kernel
theorem dX4_laysBooks_65 : decode cX4_laysBooks 65 = .ok (.goto (-61), 3) := by decide +kernel
theorem dX4_laysBooks_68 : decode cX4_laysBooks 68 = .ok (.iload_n 2, 1) := by decide +kernel
theorem dX4_laysBooks_69 : decode cX4_laysBooks 69 = .ok (.ireturn, 1) := by decide +kernel
def finX4_laysBooks (N : Ml) : Int32 × Mi → Option Value × Mi × Ml := fun b => (some (Value.int b.1), b.2, N)
noncomputable def fX4_laysBooks_4 (N : Ml) (g : Nat)  : Nat → Mi → Int32 → Int32 → Option (Int32 × Mi)
  | 0 => fun _ _ _ => none
  | n + 1 => fun M x2 x3 => (if (M g 1) ≤ x3 then (some (x2, M)) else (if (M 0 1) ≤ x3 then (some (x2, M)) else (if inb x3 40 then (if (N g (ix x3)) < 0 then ((fX4_laysBooks_4 N g n) M x2 (x3 + 1)) else (if 4095 < (N g (ix x3)) then ((fX4_laysBooks_4 N g n) M x2 (x3 + 1)) else (if inb x3 8 then ((fX4_laysBooks_4 N g n) (wM M 0 (9 + 4 * ix x3) (Int64.toInt32 (N g (ix x3)))) (x2 + 1) (x3 + 1)) else none))) else none)))
theorem bX4_laysBooks_4 {Z : Zt} {E : Ec} {N : Ml} {g : Nat} (C : Ok 1 Z E cX4_laysBooks 6 RX4 (some .int) 0) (hg : 20 ≤ g ∧ g < 24)   : ∀ (n : Nat) (M : Mi) (x2 : Int32) (x3 : Int32), GT Z E 6 (finX4_laysBooks N) 4 [(0, .ref (zA Z 8 0)), (1, .ref (zA Z g 0)), (2, .int x2), (3, .int x3)] [] M N (fX4_laysBooks_4 N g n M x2 x3) := by
  intro n
  induction n with
  | zero => intro M x2 x3; exact r_none
  | succ n ih =>
    intro M x2 x3
    rw [fX4_laysBooks_4]
    refine r_iload_n C dX4_laysBooks_4 3 3 rfl rfl ?_
    refine r_aload_n C dX4_laysBooks_5 1 1 rfl rfl ?_
    refine gf_X4_234 (v := (M g 1)) C hg dX4_laysBooks_6 rfl ?_
    refine r_ic_ge (tgt := 68) C dX4_laysBooks_9 (by decide) (fun c1 => ?_) (fun c1 => ?_)
    · refine r_iload_n C dX4_laysBooks_68 2 2 rfl rfl ?_
      exact r_iret C dX4_laysBooks_69 rfl
    · refine r_iload_n C dX4_laysBooks_12 3 3 rfl rfl ?_
      refine r_aload_n C dX4_laysBooks_13 0 0 rfl rfl ?_
      refine gf_X4_12 C dX4_laysBooks_14 ?_
      refine gf_X4_272 (v := (M 0 1)) C (by decide) dX4_laysBooks_17 rfl ?_
      refine r_ic_ge (tgt := 68) C dX4_laysBooks_20 (by decide) (fun c2 => ?_) (fun c2 => ?_)
      · refine r_iload_n C dX4_laysBooks_68 2 2 rfl rfl ?_
        exact r_iret C dX4_laysBooks_69 rfl
      · refine r_aload_n C dX4_laysBooks_23 1 1 rfl rfl ?_
        refine gf_X4_238 C hg dX4_laysBooks_24 ?_
        refine r_iload_n C dX4_laysBooks_27 3 3 rfl rfl ?_
        refine r_guard (fun h3 => ?_)
        refine ald_S (v := (N g (ix x3))) C hg h3 rfl dX4_laysBooks_28 ?_
        refine r_lstore (lv' := [(4, .long (N g (ix x3))), (0, .ref (zA Z 8 0)), (1, .ref (zA Z g 0)), (2, .int x2), (3, .int x3)]) C dX4_laysBooks_29 (by decide) rfl ?_
        refine r_lload C dX4_laysBooks_31 0 rfl ?_
        refine r_lconst (v := 0) C dX4_laysBooks_33 (by decide) ?_
        refine r_lc_lt (tgt := 62) C dX4_laysBooks_34 dX4_laysBooks_35 (by decide) (fun c4 => ?_) (fun c4 => ?_)
        · refine r_iinc (v := (x3 + 1)) (lv' := [(3, .int (x3 + 1)), (4, .long (N g (ix x3))), (0, .ref (zA Z 8 0)), (1, .ref (zA Z g 0)), (2, .int x2)]) C dX4_laysBooks_62 4 rfl rfl (by decide) rfl ?_
          refine r_goto (tgt := 4) C dX4_laysBooks_65 (by decide) ?_
          refine r_lv [2, 3, 4, 0] (lv' := [(0, .ref (zA Z 8 0)), (1, .ref (zA Z g 0)), (2, .int x2), (3, .int (x3 + 1))]) rfl ?_
          exact ih M x2 (x3 + 1)
        · refine r_lload C dX4_laysBooks_38 0 rfl ?_
          refine r_ldc2 (v := 4095) C dX4_laysBooks_40 wd_752 ?_
          refine r_lc_gt (tgt := 62) C dX4_laysBooks_43 dX4_laysBooks_44 (by decide) (fun c5 => ?_) (fun c5 => ?_)
          · refine r_iinc (v := (x3 + 1)) (lv' := [(3, .int (x3 + 1)), (4, .long (N g (ix x3))), (0, .ref (zA Z 8 0)), (1, .ref (zA Z g 0)), (2, .int x2)]) C dX4_laysBooks_62 4 rfl rfl (by decide) rfl ?_
            refine r_goto (tgt := 4) C dX4_laysBooks_65 (by decide) ?_
            refine r_lv [2, 3, 4, 0] (lv' := [(0, .ref (zA Z 8 0)), (1, .ref (zA Z g 0)), (2, .int x2), (3, .int (x3 + 1))]) rfl ?_
            exact ih M x2 (x3 + 1)
          · refine r_aload_n C dX4_laysBooks_47 0 1 rfl rfl ?_
            refine gf_X4_12 C dX4_laysBooks_48 ?_
            refine gf_X4_110 C (by decide) dX4_laysBooks_51 ?_
            refine r_iload_n C dX4_laysBooks_54 3 4 rfl rfl ?_
            refine r_lload C dX4_laysBooks_55 0 rfl ?_
            refine r_l2i C dX4_laysBooks_57 ?_
            refine r_guard (fun h6 => ?_)
            refine ast_I4 (M' := (wM M 0 (9 + 4 * ix x3) (Int64.toInt32 (N g (ix x3))))) C (by decide) h6 rfl dX4_laysBooks_58 ?_
            refine r_iinc (v := (x2 + 1)) (lv' := [(2, .int (x2 + 1)), (4, .long (N g (ix x3))), (0, .ref (zA Z 8 0)), (1, .ref (zA Z g 0)), (3, .int x3)]) C dX4_laysBooks_59 3 rfl rfl (by decide) rfl ?_
            refine r_iinc (v := (x3 + 1)) (lv' := [(3, .int (x3 + 1)), (2, .int (x2 + 1)), (4, .long (N g (ix x3))), (0, .ref (zA Z 8 0)), (1, .ref (zA Z g 0))]) C dX4_laysBooks_62 4 rfl rfl (by decide) rfl ?_
            refine r_goto (tgt := 4) C dX4_laysBooks_65 (by decide) ?_
            refine r_lv [3, 4, 1, 0] (lv' := [(0, .ref (zA Z 8 0)), (1, .ref (zA Z g 0)), (2, .int (x2 + 1)), (3, .int (x3 + 1))]) rfl ?_
            exact ih (wM M 0 (9 + 4 * ix x3) (Int64.toInt32 (N g (ix x3)))) (x2 + 1) (x3 + 1)
noncomputable def fX4_laysBooks (N : Ml) (g : Nat)  (M : Mi) : Option (Int32 × Mi) := (fX4_laysBooks_4 N g fu M 0 0)
theorem bX4_laysBooks {Z : Zt} {E : Ec} {N : Ml} {g : Nat} (C : Ok 1 Z E cX4_laysBooks 6 RX4 (some .int) 0) (hg : 20 ≤ g ∧ g < 24)   (M : Mi)  : GT Z E 6 (finX4_laysBooks N) 0 [(0, .ref (zA Z 8 0)), (1, .ref (zA Z g 0))] [] M N (fX4_laysBooks N g M) := by
  unfold fX4_laysBooks
  refine r_iconst (v := 0) C dX4_laysBooks_0 (by decide) ?_
  refine r_istore_n (lv' := [(2, .int 0), (0, .ref (zA Z 8 0)), (1, .ref (zA Z g 0))]) C dX4_laysBooks_1 2 rfl (by decide) rfl ?_
  refine r_iconst (v := 0) C dX4_laysBooks_2 (by decide) ?_
  refine r_istore_n (lv' := [(3, .int 0), (2, .int 0), (0, .ref (zA Z 8 0)), (1, .ref (zA Z g 0))]) C dX4_laysBooks_3 3 rfl (by decide) rfl ?_
  refine r_lv [2, 3, 1, 0] (lv' := [(0, .ref (zA Z 8 0)), (1, .ref (zA Z g 0)), (2, .int 0), (3, .int 0)]) rfl ?_
  exact bX4_laysBooks_4 C hg fu M 0 0
theorem mX4_laysBooks (l : Launch) {Z : Zt} (hZ : Zok 1 Z) {g : Nat} (hg : 20 ≤ g ∧ g < 24) (M : Mi) (N : Ml) (_g : Nat) (b : Int32 × Mi) (hb : fX4_laysBooks N g M = some b) : Ct 1 Z l yX4_laysBooks cX4_laysBooks 6 (some .int) 0 [.ref (zA Z 8 0), .ref (zA Z g 0)] M N (some (Value.int b.1), b.2, N) :=
  metG (fin := (finX4_laysBooks N)) (by decide) (Nat.le_of_ble_eq_true rfl) (fun E _ C => bX4_laysBooks C hg M) hb
theorem dX4_lays_0 : decode cX4_lays 0 = .ok (.aload_n 0, 1) := by decide +kernel
theorem dX4_lays_1 : decode cX4_lays 1 = .ok (.iload_n 1, 1) := by decide +kernel
theorem dX4_lays_2 : decode cX4_lays 2 = .ok (.invokevirtual 235, 3) := by decide +kernel
theorem dX4_lays_5 : decode cX4_lays 5 = .ok (.istore_n 2, 1) := by decide +kernel
theorem dX4_lays_6 : decode cX4_lays 6 = .ok (.iload_n 2, 1) := by decide +kernel
theorem dX4_lays_7 : decode cX4_lays 7 = .ok (.ifCond .eq 5, 3) := by decide +kernel
theorem dX4_lays_10 : decode cX4_lays 10 = .ok (.iload_n 2, 1) := by decide +kernel
theorem dX4_lays_11 : decode cX4_lays 11 = .ok (.ireturn, 1) := by decide +kernel
theorem dX4_lays_12 : decode cX4_lays 12 = .ok (.aload_n 0, 1) := by decide +kernel
theorem dX4_lays_13 : decode cX4_lays 13 = .ok (.aload_n 0, 1) := by decide +kernel
theorem dX4_lays_14 : decode cX4_lays 14 = .ok (.getfield 38, 3) := by decide +kernel
theorem dX4_lays_17 : decode cX4_lays 17 = .ok (.iload_n 1, 1) := by decide +kernel
theorem dX4_lays_18 : decode cX4_lays 18 = .ok (.aaload, 1) := by decide +kernel
theorem dX4_lays_19 : decode cX4_lays 19 = .ok (.invokevirtual 261, 3) := by decide +kernel
theorem dX4_lays_22 : decode cX4_lays 22 = .ok (.ireturn, 1) := by decide +kernel
def finX4_lays (N : Ml) : Int32 × Mi → Option Value × Mi × Ml := fun b => (some (Value.int b.1), b.2, N)
noncomputable def fX4_lays (N : Ml)  (M : Mi) (x1 : Int32) : Option (Int32 × Mi) := (Option.bind (fX4_askOfSheet M x1) (fun a1 => (if a1.1 = 0 then (if inb x1 4 then (Option.bind (fX4_laysBooks N (20 + ix x1) (a1.2)) (fun a4 => (some (a4.1, (a4.2))))) else none) else (some (a1.1, (a1.2))))))
theorem bX4_lays {Z : Zt} {E : Ec} {N : Ml} (C : Ok 1 Z E cX4_lays 3 RX4 (some .int) 2)    (M : Mi) (x1 : Int32)  : GT Z E 3 (finX4_lays N) 0 [(0, .ref (zA Z 8 0)), (1, .int x1)] [] M N (fX4_lays N M x1) := by
  unfold fX4_lays
  refine r_aload_n C dX4_lays_0 0 0 rfl rfl ?_
  refine r_iload_n C dX4_lays_1 1 1 rfl rfl ?_
  refine r_bind (fun a1 ha1 => ?_)
  refine r_callV (rest := []) (st2 := [.int a1.1]) C (mX4_askOfSheet (eL E) C.z M N x1 a1 ha1) lk_X4_235 (rvX C) (by decide) rfl rfl (Nat.le_of_ble_eq_true rfl) dX4_lays_2 rfl ?_
  refine r_istore_n (lv' := [(2, .int a1.1), (0, .ref (zA Z 8 0)), (1, .int x1)]) C dX4_lays_5 2 rfl (by decide) rfl ?_
  refine r_iload_n C dX4_lays_6 2 0 rfl rfl ?_
  refine r_if_eq (tgt := 12) C dX4_lays_7 (by decide) (fun c2 => ?_) (fun c2 => ?_)
  · refine r_aload_n C dX4_lays_12 0 1 rfl rfl ?_
    refine r_aload_n C dX4_lays_13 0 1 rfl rfl ?_
    refine gf_X4_38 C dX4_lays_14 ?_
    refine r_iload_n C dX4_lays_17 1 2 rfl rfl ?_
    refine r_guard (fun h3 => ?_)
    refine ald_T C h3 dX4_lays_18 ?_
    refine r_bind (fun a4 ha4 => ?_)
    refine r_callV (rest := []) (st2 := [.int a4.1]) C (mX4_laysBooks (eL E) C.z (gS h3) (a1.2) N (20 + ix x1) a4 ha4) lk_X4_261 (rvX C) (by decide) rfl rfl (Nat.le_of_ble_eq_true rfl) dX4_lays_19 rfl ?_
    exact r_iret C dX4_lays_22 rfl
  · refine r_iload_n C dX4_lays_10 2 0 rfl rfl ?_
    exact r_iret C dX4_lays_11 rfl
theorem mX4_lays (l : Launch) {Z : Zt} (hZ : Zok 1 Z) (M : Mi) (N : Ml) (x1 : Int32) (b : Int32 × Mi) (hb : fX4_lays N M x1 = some b) : Ct 1 Z l yX4_lays cX4_lays 3 (some .int) 2 [.ref (zA Z 8 0), .int x1] M N (some (Value.int b.1), b.2, N) :=
  metG (fin := (finX4_lays N)) (by decide) (Nat.le_of_ble_eq_true rfl) (fun E _ C => bX4_lays C M x1) hb
theorem dX4_book_0 : decode cX4_book 0 = .ok (.aload_n 0, 1) := by decide +kernel
theorem dX4_book_1 : decode cX4_book 1 = .ok (.iload_n 1, 1) := by decide +kernel
theorem dX4_book_2 : decode cX4_book 2 = .ok (.invokevirtual 235, 3) := by decide +kernel
theorem dX4_book_5 : decode cX4_book 5 = .ok (.istore_n 3, 1) := by decide +kernel
theorem dX4_book_6 : decode cX4_book 6 = .ok (.iload_n 3, 1) := by decide +kernel
theorem dX4_book_7 : decode cX4_book 7 = .ok (.ifCond .eq 5, 3) := by decide +kernel
theorem dX4_book_10 : decode cX4_book 10 = .ok (.iload_n 3, 1) := by decide +kernel
theorem dX4_book_11 : decode cX4_book 11 = .ok (.ireturn, 1) := by decide +kernel
theorem dX4_book_12 : decode cX4_book 12 = .ok (.aload_n 0, 1) := by decide +kernel
theorem dX4_book_13 : decode cX4_book 13 = .ok (.getfield 38, 3) := by decide +kernel
theorem dX4_book_16 : decode cX4_book 16 = .ok (.iload_n 1, 1) := by decide +kernel
theorem dX4_book_17 : decode cX4_book 17 = .ok (.aaload, 1) := by decide +kernel
theorem dX4_book_18 : decode cX4_book 18 = .ok (.astore 4, 2) := by decide +kernel
theorem dX4_book_20 : decode cX4_book 20 = .ok (.aload_n 0, 1) := by decide +kernel
theorem dX4_book_21 : decode cX4_book 21 = .ok (.getfield 12, 3) := by decide +kernel
theorem dX4_book_24 : decode cX4_book 24 = .ok (.iload_n 2, 1) := by decide +kernel
theorem dX4_book_25 : decode cX4_book 25 = .ok (.invokevirtual 101, 3) := by decide +kernel
theorem dX4_book_28 : decode cX4_book 28 = .ok (.ifCond .ne 9, 3) := by decide +kernel
theorem dX4_book_31 : decode cX4_book 31 = .ok (.aload_n 0, 1) := by decide +kernel
theorem dX4_book_32 : decode cX4_book 32 = .ok (.iconst 0, 1) := by decide +kernel
theorem dX4_book_33 : decode cX4_book 33 = .ok (.invokevirtual 58, 3) := by decide +kernel
theorem dX4_book_36 : decode cX4_book 36 = .ok (.ireturn, 1) := by decide +kernel
theorem dX4_book_37 : decode cX4_book 37 = .ok (.aload_n 0, 1) := by decide +kernel
theorem dX4_book_38 : decode cX4_book 38 = .ok (.getfield 16, 3) := by decide +kernel
theorem dX4_book_41 : decode cX4_book 41 = .ok (.aload_n 0, 1) := by decide +kernel
theorem dX4_book_42 : decode cX4_book 42 = .ok (.getfield 12, 3) := by decide +kernel
theorem dX4_book_45 : decode cX4_book 45 = .ok (.invokevirtual 163, 3) := by decide +kernel
theorem dX4_book_48 : decode cX4_book 48 = .ok (.iconst 0, 1) := by decide +kernel
theorem dX4_book_49 : decode cX4_book 49 = .ok (.istore 5, 2) := by decide +kernel
theorem dX4_book_51 : decode cX4_book 51 = .ok (.iload 5, 2) := by decide +kernel
theorem dX4_book_53 : decode cX4_book 53 = .ok (.aload 4, 2) := by decide +kernel
theorem dX4_book_55 : decode cX4_book 55 = .ok (.getfield 234, 3) := by decide +kernel
theorem dX4_book_58 : decode cX4_book 58 = .ok (.if_icmp .ge 35, 3) := by decide +kernel
theorem dX4_book_61 : decode cX4_book 61 = .ok (.aload 4, 2) := by decide +kernel
theorem dX4_book_63 : decode cX4_book 63 = .ok (.getfield 238, 3) := by decide +kernel
theorem dX4_book_66 : decode cX4_book 66 = .ok (.iload 5, 2) := by decide +kernel
theorem dX4_book_68 : decode cX4_book 68 = .ok (.aload_n 0, 1) := by decide +kernel
theorem dX4_book_69 : decode cX4_book 69 = .ok (.getfield 16, 3) := by decide +kernel
theorem dX4_book_72 : decode cX4_book 72 = .ok (.getfield 107, 3) := by decide +kernel
theorem dX4_book_75 : decode cX4_book 75 = .ok (.iload_n 2, 1) := by decide +kernel
theorem dX4_book_76 : decode cX4_book 76 = .ok (.iaload, 1) := by decide +kernel
theorem dX4_book_77 : decode cX4_book 77 = .ok (.i2l, 1) := by decide +kernel
theorem dX4_book_78 : decode cX4_book 78 = .ok (.lastore, 1) := by decide +kernel
theorem dX4_book_79 : decode cX4_book 79 = .ok (.aload_n 0, 1) := by decide +kernel
theorem dX4_book_80 : decode cX4_book 80 = .ok (.getfield 16, 3) := by decide +kernel
theorem dX4_book_83 : decode cX4_book 83 = .ok (.iload_n 2, 1) := by decide +kernel
theorem dX4_book_84 : decode cX4_book 84 = .ok (.invokevirtual 265, 3) := by decide +kernel
theorem dX4_book_87 : decode cX4_book 87 = .ok (.iinc 5 1, 3) := by decide +kernel
theorem dX4_book_90 : decode cX4_book 90 = .ok (.goto (-39), 3) := by decide +kernel
theorem dX4_book_93 : decode cX4_book 93 = .ok (.aload 4, 2) := by decide +kernel
theorem dX4_book_95 : decode cX4_book 95 = .ok (.getfield 234, 3) := by decide +kernel
theorem dX4_book_98 : decode cX4_book 98 = .ok (.ireturn, 1) := by decide +kernel
def finX4_book  : Int32 × Mi × Ml → Option Value × Mi × Ml := fun b => (some (Value.int b.1), b.2.1, b.2.2)
noncomputable def fX4_book_51   : Nat → Mi → Ml → Int32 → Nat → Int32 → Option (Int32 × Mi × Ml)
  | 0 => fun _ _ _ _ _ => none
  | n + 1 => fun M N x2 g4 x5 => (if (M g4 1) ≤ x5 then (some ((M g4 1), M, N)) else (if inb x2 8 then (if inb x5 40 then (Option.bind (fX0_goAlone (M 1) x2) (fun a9 => ((fX4_book_51 n) (sR M 1 a9) (wN N g4 (ix x5) (Int32.toInt64 (M 1 (8 + 4 * ix x2)))) x2 g4 (x5 + 1)))) else none) else none))
theorem bX4_book_51 {Z : Zt} {E : Ec}  (C : Ok 1 Z E cX4_book 6 RX4 (some .int) 4)    : ∀ (n : Nat) (M : Mi) (N : Ml) (x2 : Int32) (g4 : Nat) (x5 : Int32) (hg4 : 20 ≤ g4 ∧ g4 < 24), GT Z E 6 finX4_book 51 [(0, .ref (zA Z 8 0)), (2, .int x2), (4, .ref (zA Z g4 0)), (5, .int x5)] [] M N (fX4_book_51 n M N x2 g4 x5) := by
  intro n
  induction n with
  | zero => intro M N x2 g4 x5 hg4; exact r_none
  | succ n ih =>
    intro M N x2 g4 x5 hg4
    rw [fX4_book_51]
    refine r_iload C dX4_book_51 3 rfl ?_
    refine r_aload C dX4_book_53 2 rfl ?_
    refine gf_X4_234 (v := (M g4 1)) C hg4 dX4_book_55 rfl ?_
    refine r_ic_ge (tgt := 93) C dX4_book_58 (by decide) (fun c6 => ?_) (fun c6 => ?_)
    · refine r_aload C dX4_book_93 2 rfl ?_
      refine gf_X4_234 (v := (M g4 1)) C hg4 dX4_book_95 rfl ?_
      exact r_iret C dX4_book_98 rfl
    · refine r_aload C dX4_book_61 2 rfl ?_
      refine gf_X4_238 C hg4 dX4_book_63 ?_
      refine r_iload C dX4_book_66 3 rfl ?_
      refine r_aload_n C dX4_book_68 0 0 rfl rfl ?_
      refine gf_X4_16 C dX4_book_69 ?_
      refine gf_X4_107 C (by decide) dX4_book_72 ?_
      refine r_iload_n C dX4_book_75 2 1 rfl rfl ?_
      refine r_guard (fun h7 => ?_)
      refine ald_I3 (v := (M 1 (8 + 4 * ix x2))) C (by decide) h7 rfl dX4_book_76 ?_
      refine r_i2l C dX4_book_77 ?_
      refine r_guard (fun h8 => ?_)
      refine ast_S (N' := (wN N g4 (ix x5) (Int32.toInt64 (M 1 (8 + 4 * ix x2))))) C hg4 h8 rfl dX4_book_78 ?_
      refine r_aload_n C dX4_book_79 0 0 rfl rfl ?_
      refine gf_X4_16 C dX4_book_80 ?_
      refine r_iload_n C dX4_book_83 2 1 rfl rfl ?_
      refine r_bind (fun a9 ha9 => ?_)
      refine r_callV (rest := []) (st2 := []) C (mX0_goAlone (eL E) C.z (by decide) M _ (M 1) x2 a9 ha9).selfW lk_X4_265 (rvI C (by decide)) (by decide) rfl rfl (Nat.le_of_ble_eq_true rfl) dX4_book_84 rfl ?_
      refine r_iinc (v := (x5 + 1)) (lv' := [(5, .int (x5 + 1)), (0, .ref (zA Z 8 0)), (2, .int x2), (4, .ref (zA Z g4 0))]) C dX4_book_87 3 rfl rfl (by decide) rfl ?_
      refine r_goto (tgt := 51) C dX4_book_90 (by decide) ?_
      refine r_lv [1, 2, 3, 0] (lv' := [(0, .ref (zA Z 8 0)), (2, .int x2), (4, .ref (zA Z g4 0)), (5, .int (x5 + 1))]) rfl ?_
      exact ih (sR M 1 a9) (wN N g4 (ix x5) (Int32.toInt64 (M 1 (8 + 4 * ix x2)))) x2 g4 (x5 + 1) hg4
noncomputable def fX4_book   (M : Mi) (N : Ml) (x1 : Int32) (x2 : Int32) : Option (Int32 × Mi × Ml) := (Option.bind (fX4_askOfSheet M x1) (fun a1 => (if a1.1 = 0 then (if inb x1 4 then (if (fX0_has ((a1.2) 0) x2) = 0 then (Option.bind (fX4_finding (a1.2) 0) (fun a10 => (some (a10.1, (a10.2), N)))) else (Option.bind (fX0_becomes ((a1.2) 0) ((a1.2) 1)) (fun a5 => (fX4_book_51 fu (sR (a1.2) 1 a5) N x2 (20 + ix x1) 0)))) else none) else (some (a1.1, (a1.2), N)))))
theorem bX4_book {Z : Zt} {E : Ec}  (C : Ok 1 Z E cX4_book 6 RX4 (some .int) 4)    (M : Mi) (N : Ml) (x1 : Int32) (x2 : Int32)  : GT Z E 6 finX4_book 0 [(0, .ref (zA Z 8 0)), (1, .int x1), (2, .int x2)] [] M N (fX4_book M N x1 x2) := by
  unfold fX4_book
  refine r_aload_n C dX4_book_0 0 0 rfl rfl ?_
  refine r_iload_n C dX4_book_1 1 1 rfl rfl ?_
  refine r_bind (fun a1 ha1 => ?_)
  refine r_callV (rest := []) (st2 := [.int a1.1]) C (mX4_askOfSheet (eL E) C.z M N x1 a1 ha1) lk_X4_235 (rvX C) (by decide) rfl rfl (Nat.le_of_ble_eq_true rfl) dX4_book_2 rfl ?_
  refine r_istore_n (lv' := [(3, .int a1.1), (0, .ref (zA Z 8 0)), (1, .int x1), (2, .int x2)]) C dX4_book_5 3 rfl (by decide) rfl ?_
  refine r_iload_n C dX4_book_6 3 0 rfl rfl ?_
  refine r_if_eq (tgt := 12) C dX4_book_7 (by decide) (fun c2 => ?_) (fun c2 => ?_)
  · refine r_aload_n C dX4_book_12 0 1 rfl rfl ?_
    refine gf_X4_38 C dX4_book_13 ?_
    refine r_iload_n C dX4_book_16 1 2 rfl rfl ?_
    refine r_guard (fun h3 => ?_)
    refine ald_T C h3 dX4_book_17 ?_
    refine r_astore (lv' := [(4, .ref (zA Z (20 + ix x1) 0)), (3, .int a1.1), (0, .ref (zA Z 8 0)), (1, .int x1), (2, .int x2)]) C dX4_book_18 (by decide) rfl ?_
    refine r_aload_n C dX4_book_20 0 2 rfl rfl ?_
    refine gf_X4_12 C dX4_book_21 ?_
    refine r_iload_n C dX4_book_24 2 4 rfl rfl ?_
    refine r_callV (rest := []) (st2 := [.int (fX0_has ((a1.2) 0) x2)]) C (mX0_has (eL E) C.z (by decide) (a1.2) _ ((a1.2) 0) x2).selfR lk_X4_101 (rvI C (by decide)) (by decide) rfl rfl (Nat.le_of_ble_eq_true rfl) dX4_book_25 rfl ?_
    refine r_if_ne (tgt := 37) C dX4_book_28 (by decide) (fun c4 => ?_) (fun c4 => ?_)
    · refine r_aload_n C dX4_book_37 0 2 rfl rfl ?_
      refine gf_X4_16 C dX4_book_38 ?_
      refine r_aload_n C dX4_book_41 0 2 rfl rfl ?_
      refine gf_X4_12 C dX4_book_42 ?_
      refine r_bind (fun a5 ha5 => ?_)
      refine r_callV (rest := []) (st2 := []) C (mX0_becomes (eL E) C.z (by decide) (by decide) (by decide) (a1.2) _ ((a1.2) 1) a5 ha5).selfW lk_X4_163 (rvI C (by decide)) (by decide) rfl rfl (Nat.le_of_ble_eq_true rfl) dX4_book_45 rfl ?_
      refine r_iconst (v := 0) C dX4_book_48 (by decide) ?_
      refine r_istore (lv' := [(5, .int 0), (4, .ref (zA Z (20 + ix x1) 0)), (3, .int a1.1), (0, .ref (zA Z 8 0)), (1, .int x1), (2, .int x2)]) C dX4_book_49 (by decide) rfl ?_
      refine r_lv [3, 5, 1, 0] (lv' := [(0, .ref (zA Z 8 0)), (2, .int x2), (4, .ref (zA Z (20 + ix x1) 0)), (5, .int 0)]) rfl ?_
      exact bX4_book_51 C fu (sR (a1.2) 1 a5) N x2 (20 + ix x1) 0 (gS h3)
    · refine r_aload_n C dX4_book_31 0 2 rfl rfl ?_
      refine r_iconst (v := 0) C dX4_book_32 (by decide) ?_
      refine r_bind (fun a10 ha10 => ?_)
      refine r_callV (rest := []) (st2 := [.int a10.1]) C (mX4_finding (eL E) C.z (a1.2) N 0 a10 ha10) lk_X4_58 (rvX C) (by decide) rfl rfl (Nat.le_of_ble_eq_true rfl) dX4_book_33 rfl ?_
      exact r_iret C dX4_book_36 rfl
  · refine r_iload_n C dX4_book_10 3 0 rfl rfl ?_
    exact r_iret C dX4_book_11 rfl
theorem mX4_book (l : Launch) {Z : Zt} (hZ : Zok 1 Z) (M : Mi) (N : Ml) (x1 : Int32) (x2 : Int32) (b : Int32 × Mi × Ml) (hb : fX4_book M N x1 x2 = some b) : Ct 1 Z l yX4_book cX4_book 6 (some .int) 4 [.ref (zA Z 8 0), .int x1, .int x2] M N (some (Value.int b.1), b.2.1, b.2.2) :=
  metG (fin := finX4_book) (by decide) (Nat.le_of_ble_eq_true rfl) (fun E _ C => bX4_book C M N x1 x2) hb
theorem dX4_read_0 : decode cX4_read 0 = .ok (.aload_n 0, 1) := by decide +kernel
theorem dX4_read_1 : decode cX4_read 1 = .ok (.iload_n 1, 1) := by decide +kernel
theorem dX4_read_2 : decode cX4_read 2 = .ok (.invokevirtual 235, 3) := by decide +kernel
theorem dX4_read_5 : decode cX4_read 5 = .ok (.istore_n 3, 1) := by decide +kernel
theorem dX4_read_6 : decode cX4_read 6 = .ok (.iload_n 3, 1) := by decide +kernel
theorem dX4_read_7 : decode cX4_read 7 = .ok (.ifCond .eq 5, 3) := by decide +kernel
theorem dX4_read_10 : decode cX4_read 10 = .ok (.iload_n 3, 1) := by decide +kernel
theorem dX4_read_11 : decode cX4_read 11 = .ok (.ireturn, 1) := by decide +kernel
theorem dX4_read_12 : decode cX4_read 12 = .ok (.aload_n 0, 1) := by decide +kernel
theorem dX4_read_13 : decode cX4_read 13 = .ok (.getfield 12, 3) := by decide +kernel
theorem dX4_read_16 : decode cX4_read 16 = .ok (.iload_n 2, 1) := by decide +kernel
theorem dX4_read_17 : decode cX4_read 17 = .ok (.invokevirtual 101, 3) := by decide +kernel
theorem dX4_read_20 : decode cX4_read 20 = .ok (.ifCond .ne 9, 3) := by decide +kernel
theorem dX4_read_23 : decode cX4_read 23 = .ok (.aload_n 0, 1) := by decide +kernel
theorem dX4_read_24 : decode cX4_read 24 = .ok (.iconst 0, 1) := by decide +kernel
theorem dX4_read_25 : decode cX4_read 25 = .ok (.invokevirtual 58, 3) := by decide +kernel
theorem dX4_read_28 : decode cX4_read 28 = .ok (.ireturn, 1) := by decide +kernel
theorem dX4_read_29 : decode cX4_read 29 = .ok (.iconst 0, 1) := by decide +kernel
theorem dX4_read_30 : decode cX4_read 30 = .ok (.istore 4, 2) := by decide +kernel
theorem dX4_read_32 : decode cX4_read 32 = .ok (.iconst 0, 1) := by decide +kernel
theorem dX4_read_33 : decode cX4_read 33 = .ok (.istore 5, 2) := by decide +kernel
theorem dX4_read_35 : decode cX4_read 35 = .ok (.iload 5, 2) := by decide +kernel
theorem dX4_read_37 : decode cX4_read 37 = .ok (.bipush 6, 2) := by decide +kernel
theorem dX4_read_39 : decode cX4_read 39 = .ok (.if_icmp .ge 85, 3) := by decide +kernel
theorem dX4_read_42 : decode cX4_read 42 = .ok (.iconst 0, 1) := by decide +kernel
theorem dX4_read_43 : decode cX4_read 43 = .ok (.istore 6, 2) := by decide +kernel
theorem dX4_read_45 : decode cX4_read 45 = .ok (.iload 6, 2) := by decide +kernel
theorem dX4_read_47 : decode cX4_read 47 = .ok (.bipush 30, 2) := by decide +kernel
theorem dX4_read_49 : decode cX4_read 49 = .ok (.if_icmp .ge 69, 3) := by decide +kernel
theorem dX4_read_52 : decode cX4_read 52 = .ok (.aload_n 0, 1) := by decide +kernel
theorem dX4_read_53 : decode cX4_read 53 = .ok (.getfield 16, 3) := by decide +kernel
theorem dX4_read_56 : decode cX4_read 56 = .ok (.aload_n 0, 1) := by decide +kernel
theorem dX4_read_57 : decode cX4_read 57 = .ok (.getfield 12, 3) := by decide +kernel
theorem dX4_read_60 : decode cX4_read 60 = .ok (.invokevirtual 163, 3) := by decide +kernel
theorem dX4_read_63 : decode cX4_read 63 = .ok (.aload_n 0, 1) := by decide +kernel
theorem dX4_read_64 : decode cX4_read 64 = .ok (.getfield 16, 3) := by decide +kernel
theorem dX4_read_67 : decode cX4_read 67 = .ok (.getfield 104, 3) := by decide +kernel
theorem dX4_read_70 : decode cX4_read 70 = .ok (.iload_n 2, 1) := by decide +kernel
theorem dX4_read_71 : decode cX4_read 71 = .ok (.iload 5, 2) := by decide +kernel
theorem dX4_read_73 : decode cX4_read 73 = .ok (.iastore, 1) := by decide +kernel
theorem dX4_read_74 : decode cX4_read 74 = .ok (.aload_n 0, 1) := by decide +kernel
theorem dX4_read_75 : decode cX4_read 75 = .ok (.getfield 16, 3) := by decide +kernel
theorem dX4_read_78 : decode cX4_read 78 = .ok (.getfield 73, 3) := by decide +kernel
theorem dX4_read_81 : decode cX4_read 81 = .ok (.iconst 0, 1) := by decide +kernel
theorem dX4_read_82 : decode cX4_read 82 = .ok (.iload 6, 2) := by decide +kernel
theorem dX4_read_84 : decode cX4_read 84 = .ok (.iastore, 1) := by decide +kernel
theorem dX4_read_85 : decode cX4_read 85 = .ok (.iload 4, 2) := by decide +kernel
theorem dX4_read_87 : decode cX4_read 87 = .ok (.aload_n 0, 1) := by decide +kernel
theorem dX4_read_88 : decode cX4_read 88 = .ok (.getfield 16, 3) := by decide +kernel
theorem dX4_read_91 : decode cX4_read 91 = .ok (.aload_n 0, 1) := by decide +kernel
theorem dX4_read_92 : decode cX4_read 92 = .ok (.getfield 38, 3) := by decide +kernel
theorem dX4_read_95 : decode cX4_read 95 = .ok (.iload_n 1, 1) := by decide +kernel
theorem dX4_read_96 : decode cX4_read 96 = .ok (.aaload, 1) := by decide +kernel
theorem dX4_read_97 : decode cX4_read 97 = .ok (.iload_n 2, 1) := by decide +kernel
theorem dX4_read_98 : decode cX4_read 98 = .ok (.invokevirtual 268, 3) := by decide +kernel
theorem dX4_read_101 : decode cX4_read 101 = .ok (.ifCond .eq 7, 3) := by decide +kernel
theorem dX4_read_104 : decode cX4_read 104 = .ok (.iconst 1, 1) := by decide +kernel
theorem dX4_read_105 : decode cX4_read 105 = .ok (.goto 4, 3) := by decide +kernel
theorem dX4_read_108 : decode cX4_read 108 = .ok (.iconst 0, 1) := by decide +kernel
theorem dX4_read_109 : decode cX4_read 109 = .ok (.iadd, 1) := by decide +kernel
theorem dX4_read_110 : decode cX4_read 110 = .ok (.istore 4, 2) := by decide +kernel
theorem dX4_read_112 : decode cX4_read 112 = .ok (.iinc 6 1, 3) := by decide +kernel
theorem dX4_read_115 : decode cX4_read 115 = .ok (.goto (-70), 3) := by decide +kernel
theorem dX4_read_118 : decode cX4_read 118 = .ok (.iinc 5 1, 3) := by decide +kernel
theorem dX4_read_121 : decode cX4_read 121 = .ok (.goto (-86), 3) := by decide +kernel
theorem dX4_read_124 : decode cX4_read 124 = .ok (.iload 4, 2) := by decide +kernel
theorem dX4_read_126 : decode cX4_read 126 = .ok (.ireturn, 1) := by decide +kernel
def finX4_read (N : Ml) : Int32 × Mi → Option Value × Mi × Ml := fun b => (some (Value.int b.1), b.2, N)
noncomputable def fX4_read_45 (N : Ml) (r118 : Mi → Int32 → Int32 → Int32 → Int32 → Option (Int32 × Mi)) : Nat → Mi → Int32 → Int32 → Int32 → Int32 → Int32 → Option (Int32 × Mi)
  | 0 => fun _ _ _ _ _ _ => none
  | n + 1 => fun M x1 x2 x4 x5 x6 => (if 30 ≤ x6 then (r118 M x1 x2 x4 x5) else (Option.bind (fX0_becomes (M 0) (M 1)) (fun a6 => (if inb x2 8 then (if inb x1 4 then (Option.bind (fX0_goesAsIn ((wM (wM (sR M 1 a6) 1 (7 + 4 * ix x2) x5) 1 3 x6) (20 + ix x1) 1) (N (20 + ix x1)) ((wM (wM (sR M 1 a6) 1 (7 + 4 * ix x2) x5) 1 3 x6) 1) x2) (fun a9 => ((fX4_read_45 N r118 n) (sR (wM (wM (sR M 1 a6) 1 (7 + 4 * ix x2) x5) 1 3 x6) 1 (a9.2)) x1 x2 (x4 + (if a9.1 = 0 then 0 else 1 : Int32)) x5 (x6 + 1)))) else none) else none))))
theorem bX4_read_45 {Z : Zt} {E : Ec} {N : Ml} (C : Ok 1 Z E cX4_read 7 RX4 (some .int) 5)  (r118 : Mi → Int32 → Int32 → Int32 → Int32 → Option (Int32 × Mi)) (hr118 : ∀ (M : Mi) (x1 : Int32) (x2 : Int32) (x4 : Int32) (x5 : Int32), GT Z E 7 (finX4_read N) 118 [(0, .ref (zA Z 8 0)), (1, .int x1), (2, .int x2), (4, .int x4), (5, .int x5)] [] M N (r118 M x1 x2 x4 x5)) : ∀ (n : Nat) (M : Mi) (x1 : Int32) (x2 : Int32) (x4 : Int32) (x5 : Int32) (x6 : Int32), GT Z E 7 (finX4_read N) 45 [(0, .ref (zA Z 8 0)), (1, .int x1), (2, .int x2), (4, .int x4), (5, .int x5), (6, .int x6)] [] M N (fX4_read_45 N r118 n M x1 x2 x4 x5 x6) := by
  intro n
  induction n with
  | zero => intro M x1 x2 x4 x5 x6; exact r_none
  | succ n ih =>
    intro M x1 x2 x4 x5 x6
    rw [fX4_read_45]
    refine r_iload C dX4_read_45 5 rfl ?_
    refine r_bipush (v := 30) C dX4_read_47 (by decide) ?_
    refine r_ic_ge (tgt := 118) C dX4_read_49 (by decide) (fun c5 => ?_) (fun c5 => ?_)
    · refine r_lv [0, 1, 2, 3, 4] (lv' := [(0, .ref (zA Z 8 0)), (1, .int x1), (2, .int x2), (4, .int x4), (5, .int x5)]) rfl ?_
      exact hr118 M x1 x2 x4 x5
    · refine r_aload_n C dX4_read_52 0 0 rfl rfl ?_
      refine gf_X4_16 C dX4_read_53 ?_
      refine r_aload_n C dX4_read_56 0 0 rfl rfl ?_
      refine gf_X4_12 C dX4_read_57 ?_
      refine r_bind (fun a6 ha6 => ?_)
      refine r_callV (rest := []) (st2 := []) C (mX0_becomes (eL E) C.z (by decide) (by decide) (by decide) M _ (M 1) a6 ha6).selfW lk_X4_163 (rvI C (by decide)) (by decide) rfl rfl (Nat.le_of_ble_eq_true rfl) dX4_read_60 rfl ?_
      refine r_aload_n C dX4_read_63 0 0 rfl rfl ?_
      refine gf_X4_16 C dX4_read_64 ?_
      refine gf_X4_104 C (by decide) dX4_read_67 ?_
      refine r_iload_n C dX4_read_70 2 2 rfl rfl ?_
      refine r_iload C dX4_read_71 4 rfl ?_
      refine r_guard (fun h7 => ?_)
      refine ast_I2 (M' := (wM (sR M 1 a6) 1 (7 + 4 * ix x2) x5)) C (by decide) h7 rfl dX4_read_73 ?_
      refine r_aload_n C dX4_read_74 0 0 rfl rfl ?_
      refine gf_X4_16 C dX4_read_75 ?_
      refine gf_X4_73 C (by decide) dX4_read_78 ?_
      refine r_iconst (v := 0) C dX4_read_81 (by decide) ?_
      refine r_iload C dX4_read_82 5 rfl ?_
      refine ast_I1 (M' := (wM (wM (sR M 1 a6) 1 (7 + 4 * ix x2) x5) 1 3 x6)) C (by decide) (by decide) rfl dX4_read_84 ?_
      refine r_iload C dX4_read_85 3 rfl ?_
      refine r_aload_n C dX4_read_87 0 0 rfl rfl ?_
      refine gf_X4_16 C dX4_read_88 ?_
      refine r_aload_n C dX4_read_91 0 0 rfl rfl ?_
      refine gf_X4_38 C dX4_read_92 ?_
      refine r_iload_n C dX4_read_95 1 1 rfl rfl ?_
      refine r_guard (fun h8 => ?_)
      refine ald_T C h8 dX4_read_96 ?_
      refine r_iload_n C dX4_read_97 2 2 rfl rfl ?_
      refine r_bind (fun a9 ha9 => ?_)
      refine r_callV (rest := [.int x4]) (st2 := [.int a9.1, .int x4]) C (mX0_goesAsIn (eL E) C.z (by decide) (gS h8) (wM (wM (sR M 1 a6) 1 (7 + 4 * ix x2) x5) 1 3 x6) _ ((wM (wM (sR M 1 a6) 1 (7 + 4 * ix x2) x5) 1 3 x6) 1) x2 a9 ha9).selfW lk_X4_268 (rvI C (by decide)) (by decide) rfl rfl (Nat.le_of_ble_eq_true rfl) dX4_read_98 rfl ?_
      refine r_sel (tj := 109) (sj := [.int (if a9.1 = 0 then 0 else 1 : Int32), .int x4]) ?_ (fun k11 => ?_)
      · refine r_iadd C dX4_read_109 ?_
        refine r_istore (lv' := [(4, .int (x4 + (if a9.1 = 0 then 0 else 1 : Int32))), (0, .ref (zA Z 8 0)), (1, .int x1), (2, .int x2), (5, .int x5), (6, .int x6)]) C dX4_read_110 (by decide) rfl ?_
        refine r_iinc (v := (x6 + 1)) (lv' := [(6, .int (x6 + 1)), (4, .int (x4 + (if a9.1 = 0 then 0 else 1 : Int32))), (0, .ref (zA Z 8 0)), (1, .int x1), (2, .int x2), (5, .int x5)]) C dX4_read_112 5 rfl rfl (by decide) rfl ?_
        refine r_goto (tgt := 45) C dX4_read_115 (by decide) ?_
        refine r_lv [2, 3, 4, 1, 5, 0] (lv' := [(0, .ref (zA Z 8 0)), (1, .int x1), (2, .int x2), (4, .int (x4 + (if a9.1 = 0 then 0 else 1 : Int32))), (5, .int x5), (6, .int (x6 + 1))]) rfl ?_
        exact ih (sR (wM (wM (sR M 1 a6) 1 (7 + 4 * ix x2) x5) 1 3 x6) 1 (a9.2)) x1 x2 (x4 + (if a9.1 = 0 then 0 else 1 : Int32)) x5 (x6 + 1)
      · refine r_same (P := a9.1 = 0) ?_
        refine r_if_eq (tgt := 108) C dX4_read_101 (by decide) (fun c10 => ?_) (fun c10 => ?_)
        · refine r_iconst (v := 0) C dX4_read_108 (by decide) ?_
          exact r_stk (if_pos c10) k11
        · refine r_iconst (v := 1) C dX4_read_104 (by decide) ?_
          refine r_goto (tgt := 109) C dX4_read_105 (by decide) ?_
          exact r_stk (if_neg c10) k11
noncomputable def fX4_read_118 (N : Ml) (r35 : Mi → Int32 → Int32 → Int32 → Int32 → Option (Int32 × Mi)) (M : Mi) (x1 : Int32) (x2 : Int32) (x4 : Int32) (x5 : Int32) : Option (Int32 × Mi) := (r35 M x1 x2 x4 (x5 + 1))
theorem bX4_read_118 {Z : Zt} {E : Ec} {N : Ml} (C : Ok 1 Z E cX4_read 7 RX4 (some .int) 5)  (r35 : Mi → Int32 → Int32 → Int32 → Int32 → Option (Int32 × Mi)) (hr35 : ∀ (M : Mi) (x1 : Int32) (x2 : Int32) (x4 : Int32) (x5 : Int32), GT Z E 7 (finX4_read N) 35 [(0, .ref (zA Z 8 0)), (1, .int x1), (2, .int x2), (4, .int x4), (5, .int x5)] [] M N (r35 M x1 x2 x4 x5)) (M : Mi) (x1 : Int32) (x2 : Int32) (x4 : Int32) (x5 : Int32)  : GT Z E 7 (finX4_read N) 118 [(0, .ref (zA Z 8 0)), (1, .int x1), (2, .int x2), (4, .int x4), (5, .int x5)] [] M N (fX4_read_118 N r35 M x1 x2 x4 x5) := by
  unfold fX4_read_118
  refine r_iinc (v := (x5 + 1)) (lv' := [(5, .int (x5 + 1)), (0, .ref (zA Z 8 0)), (1, .int x1), (2, .int x2), (4, .int x4)]) C dX4_read_118 4 rfl rfl (by decide) rfl ?_
  refine r_goto (tgt := 35) C dX4_read_121 (by decide) ?_
  refine r_lv [1, 2, 3, 4, 0] (lv' := [(0, .ref (zA Z 8 0)), (1, .int x1), (2, .int x2), (4, .int x4), (5, .int (x5 + 1))]) rfl ?_
  exact hr35 M x1 x2 x4 (x5 + 1)
noncomputable def fX4_read_35 (N : Ml)  : Nat → Mi → Int32 → Int32 → Int32 → Int32 → Option (Int32 × Mi)
  | 0 => fun _ _ _ _ _ => none
  | n + 1 => fun M x1 x2 x4 x5 => (if 6 ≤ x5 then (some (x4, M)) else (fX4_read_45 N (fX4_read_118 N (fX4_read_35 N n)) fu M x1 x2 x4 x5 0))
theorem bX4_read_35 {Z : Zt} {E : Ec} {N : Ml} (C : Ok 1 Z E cX4_read 7 RX4 (some .int) 5)    : ∀ (n : Nat) (M : Mi) (x1 : Int32) (x2 : Int32) (x4 : Int32) (x5 : Int32), GT Z E 7 (finX4_read N) 35 [(0, .ref (zA Z 8 0)), (1, .int x1), (2, .int x2), (4, .int x4), (5, .int x5)] [] M N (fX4_read_35 N n M x1 x2 x4 x5) := by
  intro n
  induction n with
  | zero => intro M x1 x2 x4 x5; exact r_none
  | succ n ih =>
    intro M x1 x2 x4 x5
    rw [fX4_read_35]
    refine r_iload C dX4_read_35 4 rfl ?_
    refine r_bipush (v := 6) C dX4_read_37 (by decide) ?_
    refine r_ic_ge (tgt := 124) C dX4_read_39 (by decide) (fun c4 => ?_) (fun c4 => ?_)
    · refine r_iload C dX4_read_124 3 rfl ?_
      exact r_iret C dX4_read_126 rfl
    · refine r_iconst (v := 0) C dX4_read_42 (by decide) ?_
      refine r_istore (lv' := [(6, .int 0), (0, .ref (zA Z 8 0)), (1, .int x1), (2, .int x2), (4, .int x4), (5, .int x5)]) C dX4_read_43 (by decide) rfl ?_
      refine r_lv [1, 2, 3, 4, 5, 0] (lv' := [(0, .ref (zA Z 8 0)), (1, .int x1), (2, .int x2), (4, .int x4), (5, .int x5), (6, .int 0)]) rfl ?_
      exact bX4_read_45 C (fX4_read_118 N (fX4_read_35 N n)) (bX4_read_118 C (fX4_read_35 N n) ih) fu M x1 x2 x4 x5 0
noncomputable def fX4_read (N : Ml)  (M : Mi) (x1 : Int32) (x2 : Int32) : Option (Int32 × Mi) := (Option.bind (fX4_askOfSheet M x1) (fun a1 => (if a1.1 = 0 then (if (fX0_has ((a1.2) 0) x2) = 0 then (Option.bind (fX4_finding (a1.2) 0) (fun a12 => (some (a12.1, (a12.2))))) else (fX4_read_35 N fu (a1.2) x1 x2 0 0)) else (some (a1.1, (a1.2))))))
theorem bX4_read {Z : Zt} {E : Ec} {N : Ml} (C : Ok 1 Z E cX4_read 7 RX4 (some .int) 5)    (M : Mi) (x1 : Int32) (x2 : Int32)  : GT Z E 7 (finX4_read N) 0 [(0, .ref (zA Z 8 0)), (1, .int x1), (2, .int x2)] [] M N (fX4_read N M x1 x2) := by
  unfold fX4_read
  refine r_aload_n C dX4_read_0 0 0 rfl rfl ?_
  refine r_iload_n C dX4_read_1 1 1 rfl rfl ?_
  refine r_bind (fun a1 ha1 => ?_)
  refine r_callV (rest := []) (st2 := [.int a1.1]) C (mX4_askOfSheet (eL E) C.z M N x1 a1 ha1) lk_X4_235 (rvX C) (by decide) rfl rfl (Nat.le_of_ble_eq_true rfl) dX4_read_2 rfl ?_
  refine r_istore_n (lv' := [(3, .int a1.1), (0, .ref (zA Z 8 0)), (1, .int x1), (2, .int x2)]) C dX4_read_5 3 rfl (by decide) rfl ?_
  refine r_iload_n C dX4_read_6 3 0 rfl rfl ?_
  refine r_if_eq (tgt := 12) C dX4_read_7 (by decide) (fun c2 => ?_) (fun c2 => ?_)
  · refine r_aload_n C dX4_read_12 0 1 rfl rfl ?_
    refine gf_X4_12 C dX4_read_13 ?_
    refine r_iload_n C dX4_read_16 2 3 rfl rfl ?_
    refine r_callV (rest := []) (st2 := [.int (fX0_has ((a1.2) 0) x2)]) C (mX0_has (eL E) C.z (by decide) (a1.2) _ ((a1.2) 0) x2).selfR lk_X4_101 (rvI C (by decide)) (by decide) rfl rfl (Nat.le_of_ble_eq_true rfl) dX4_read_17 rfl ?_
    refine r_if_ne (tgt := 29) C dX4_read_20 (by decide) (fun c3 => ?_) (fun c3 => ?_)
    · refine r_iconst (v := 0) C dX4_read_29 (by decide) ?_
      refine r_istore (lv' := [(4, .int 0), (3, .int a1.1), (0, .ref (zA Z 8 0)), (1, .int x1), (2, .int x2)]) C dX4_read_30 (by decide) rfl ?_
      refine r_iconst (v := 0) C dX4_read_32 (by decide) ?_
      refine r_istore (lv' := [(5, .int 0), (4, .int 0), (3, .int a1.1), (0, .ref (zA Z 8 0)), (1, .int x1), (2, .int x2)]) C dX4_read_33 (by decide) rfl ?_
      refine r_lv [3, 4, 5, 1, 0] (lv' := [(0, .ref (zA Z 8 0)), (1, .int x1), (2, .int x2), (4, .int 0), (5, .int 0)]) rfl ?_
      exact bX4_read_35 C fu (a1.2) x1 x2 0 0
    · refine r_aload_n C dX4_read_23 0 1 rfl rfl ?_
      refine r_iconst (v := 0) C dX4_read_24 (by decide) ?_
      refine r_bind (fun a12 ha12 => ?_)
      refine r_callV (rest := []) (st2 := [.int a12.1]) C (mX4_finding (eL E) C.z (a1.2) N 0 a12 ha12) lk_X4_58 (rvX C) (by decide) rfl rfl (Nat.le_of_ble_eq_true rfl) dX4_read_25 rfl ?_
      exact r_iret C dX4_read_28 rfl
  · refine r_iload_n C dX4_read_10 3 0 rfl rfl ?_
    exact r_iret C dX4_read_11 rfl
theorem mX4_read (l : Launch) {Z : Zt} (hZ : Zok 1 Z) (M : Mi) (N : Ml) (x1 : Int32) (x2 : Int32) (b : Int32 × Mi) (hb : fX4_read N M x1 x2 = some b) : Ct 1 Z l yX4_read cX4_read 7 (some .int) 5 [.ref (zA Z 8 0), .int x1, .int x2] M N (some (Value.int b.1), b.2, N) :=
  metG (fin := (finX4_read N)) (by decide) (Nat.le_of_ble_eq_true rfl) (fun E _ C => bX4_read C M x1 x2) hb
theorem dX4_image_0 : decode cX4_image 0 = .ok (.aload_n 0, 1) := by decide +kernel
theorem dX4_image_1 : decode cX4_image 1 = .ok (.getfield 19, 3) := by decide +kernel
theorem dX4_image_4 : decode cX4_image 4 = .ok (.aload_n 0, 1) := by decide +kernel
theorem dX4_image_5 : decode cX4_image 5 = .ok (.getfield 12, 3) := by decide +kernel
theorem dX4_image_8 : decode cX4_image 8 = .ok (.invokevirtual 163, 3) := by decide +kernel
theorem dX4_image_11 : decode cX4_image 11 = .ok (.aload_n 0, 1) := by decide +kernel
theorem dX4_image_12 : decode cX4_image 12 = .ok (.iconst 1, 1) := by decide +kernel
theorem dX4_image_13 : decode cX4_image 13 = .ok (.putfield 47, 3) := by decide +kernel
theorem dX4_image_16 : decode cX4_image 16 = .ok (.iconst 1, 1) := by decide +kernel
theorem dX4_image_17 : decode cX4_image 17 = .ok (.ireturn, 1) := by decide +kernel
def finX4_image (N : Ml) : Int32 × Mi → Option Value × Mi × Ml := fun b => (some (Value.int b.1), b.2, N)
noncomputable def fX4_image   (M : Mi) : Option (Int32 × Mi) := (Option.bind (fX0_becomes (M 0) (M 2)) (fun a1 => (some (1, (wM (sR M 2 a1) 8 0 1)))))
theorem bX4_image {Z : Zt} {E : Ec} {N : Ml} (C : Ok 1 Z E cX4_image 1 RX4 (some .int) 1)    (M : Mi)  : GT Z E 1 (finX4_image N) 0 [(0, .ref (zA Z 8 0))] [] M N (fX4_image M) := by
  unfold fX4_image
  refine r_aload_n C dX4_image_0 0 0 rfl rfl ?_
  refine gf_X4_19 C dX4_image_1 ?_
  refine r_aload_n C dX4_image_4 0 0 rfl rfl ?_
  refine gf_X4_12 C dX4_image_5 ?_
  refine r_bind (fun a1 ha1 => ?_)
  refine r_callV (rest := []) (st2 := []) C (mX0_becomes (eL E) C.z (by decide) (by decide) (by decide) M _ (M 2) a1 ha1).selfW lk_X4_163 (rvI C (by decide)) (by decide) rfl rfl (Nat.le_of_ble_eq_true rfl) dX4_image_8 rfl ?_
  refine r_aload_n C dX4_image_11 0 0 rfl rfl ?_
  refine r_iconst (v := 1) C dX4_image_12 (by decide) ?_
  refine pf_X4_47 (M' := (wM (sR M 2 a1) 8 0 1)) C dX4_image_13 (Or.inr rfl) rfl ?_
  refine r_iconst (v := 1) C dX4_image_16 (by decide) ?_
  exact r_iret C dX4_image_17 rfl
theorem mX4_image (l : Launch) {Z : Zt} (hZ : Zok 1 Z) (M : Mi) (N : Ml) (b : Int32 × Mi) (hb : fX4_image M = some b) : Ct 1 Z l yX4_image cX4_image 1 (some .int) 1 [.ref (zA Z 8 0)] M N (some (Value.int b.1), b.2, N) :=
  metG (fin := (finX4_image N)) (by decide) (Nat.le_of_ble_eq_true rfl) (fun E _ C => bX4_image C M) hb
theorem dX4_undo_0 : decode cX4_undo 0 = .ok (.aload_n 0, 1) := by decide +kernel
theorem dX4_undo_1 : decode cX4_undo 1 = .ok (.getfield 47, 3) := by decide +kernel
theorem dX4_undo_4 : decode cX4_undo 4 = .ok (.ifCond .ne 9, 3) := by decide +kernel
theorem dX4_undo_7 : decode cX4_undo 7 = .ok (.aload_n 0, 1) := by decide +kernel
theorem dX4_undo_8 : decode cX4_undo 8 = .ok (.iconst 3, 1) := by decide +kernel
theorem dX4_undo_9 : decode cX4_undo 9 = .ok (.invokevirtual 58, 3) := by decide +kernel
theorem dX4_undo_12 : decode cX4_undo 12 = .ok (.ireturn, 1) := by decide +kernel
theorem dX4_undo_13 : decode cX4_undo 13 = .ok (.aload_n 0, 1) := by decide +kernel
theorem dX4_undo_14 : decode cX4_undo 14 = .ok (.getfield 12, 3) := by decide +kernel
theorem dX4_undo_17 : decode cX4_undo 17 = .ok (.aload_n 0, 1) := by decide +kernel
theorem dX4_undo_18 : decode cX4_undo 18 = .ok (.getfield 19, 3) := by decide +kernel
theorem dX4_undo_21 : decode cX4_undo 21 = .ok (.invokevirtual 163, 3) := by decide +kernel
theorem dX4_undo_24 : decode cX4_undo 24 = .ok (.aload_n 0, 1) := by decide +kernel
theorem dX4_undo_25 : decode cX4_undo 25 = .ok (.getfield 12, 3) := by decide +kernel
theorem dX4_undo_28 : decode cX4_undo 28 = .ok (.getfield 272, 3) := by decide +kernel
theorem dX4_undo_31 : decode cX4_undo 31 = .ok (.ireturn, 1) := by decide +kernel
def finX4_undo (N : Ml) : Int32 × Mi → Option Value × Mi × Ml := fun b => (some (Value.int b.1), b.2, N)
noncomputable def fX4_undo   (M : Mi) : Option (Int32 × Mi) := (if (M 8 0) = 0 then (Option.bind (fX4_finding M 3) (fun a3 => (some (a3.1, (a3.2))))) else (Option.bind (fX0_becomes (M 2) (M 0)) (fun a2 => (some ((a2 1), (sR M 0 a2))))))
theorem bX4_undo {Z : Zt} {E : Ec} {N : Ml} (C : Ok 1 Z E cX4_undo 1 RX4 (some .int) 1)    (M : Mi)  : GT Z E 1 (finX4_undo N) 0 [(0, .ref (zA Z 8 0))] [] M N (fX4_undo M) := by
  unfold fX4_undo
  refine r_aload_n C dX4_undo_0 0 0 rfl rfl ?_
  refine gf_X4_47 (v := (M 8 0)) C dX4_undo_1 rfl ?_
  refine r_if_ne (tgt := 13) C dX4_undo_4 (by decide) (fun c1 => ?_) (fun c1 => ?_)
  · refine r_aload_n C dX4_undo_13 0 0 rfl rfl ?_
    refine gf_X4_12 C dX4_undo_14 ?_
    refine r_aload_n C dX4_undo_17 0 0 rfl rfl ?_
    refine gf_X4_19 C dX4_undo_18 ?_
    refine r_bind (fun a2 ha2 => ?_)
    refine r_callV (rest := []) (st2 := []) C (mX0_becomes (eL E) C.z (by decide) (by decide) (by decide) M _ (M 0) a2 ha2).selfW lk_X4_163 (rvI C (by decide)) (by decide) rfl rfl (Nat.le_of_ble_eq_true rfl) dX4_undo_21 rfl ?_
    refine r_aload_n C dX4_undo_24 0 0 rfl rfl ?_
    refine gf_X4_12 C dX4_undo_25 ?_
    refine gf_X4_272 (v := (a2 1)) C (by decide) dX4_undo_28 rfl ?_
    exact r_iret C dX4_undo_31 rfl
  · refine r_aload_n C dX4_undo_7 0 0 rfl rfl ?_
    refine r_iconst (v := 3) C dX4_undo_8 (by decide) ?_
    refine r_bind (fun a3 ha3 => ?_)
    refine r_callV (rest := []) (st2 := [.int a3.1]) C (mX4_finding (eL E) C.z M N 3 a3 ha3) lk_X4_58 (rvX C) (by decide) rfl rfl (Nat.le_of_ble_eq_true rfl) dX4_undo_9 rfl ?_
    exact r_iret C dX4_undo_12 rfl
theorem mX4_undo (l : Launch) {Z : Zt} (hZ : Zok 1 Z) (M : Mi) (N : Ml) (b : Int32 × Mi) (hb : fX4_undo M = some b) : Ct 1 Z l yX4_undo cX4_undo 1 (some .int) 1 [.ref (zA Z 8 0)] M N (some (Value.int b.1), b.2, N) :=
  metG (fin := (finX4_undo N)) (by decide) (Nat.le_of_ble_eq_true rfl) (fun E _ C => bX4_undo C M) hb
theorem dX4_tear_0 : decode cX4_tear 0 = .ok (.aload_n 0, 1) := by decide +kernel
theorem dX4_tear_1 : decode cX4_tear 1 = .ok (.getfield 47, 3) := by decide +kernel
theorem dX4_tear_4 : decode cX4_tear 4 = .ok (.ifCond .eq 7, 3) := by decide +kernel
theorem dX4_tear_7 : decode cX4_tear 7 = .ok (.iconst 1, 1) := by decide +kernel
theorem dX4_tear_8 : decode cX4_tear 8 = .ok (.goto 4, 3) := by decide +kernel
theorem dX4_tear_11 : decode cX4_tear 11 = .ok (.iconst 0, 1) := by decide +kernel
theorem dX4_tear_12 : decode cX4_tear 12 = .ok (.istore_n 1, 1) := by decide +kernel
theorem dX4_tear_13 : decode cX4_tear 13 = .ok (.aload_n 0, 1) := by decide +kernel
theorem dX4_tear_14 : decode cX4_tear 14 = .ok (.iconst 0, 1) := by decide +kernel
theorem dX4_tear_15 : decode cX4_tear 15 = .ok (.putfield 47, 3) := by decide +kernel
theorem dX4_tear_18 : decode cX4_tear 18 = .ok (.iload_n 1, 1) := by decide +kernel
theorem dX4_tear_19 : decode cX4_tear 19 = .ok (.ireturn, 1) := by decide +kernel
def finX4_tear (N : Ml) : Int32 × Mi → Option Value × Mi × Ml := fun b => (some (Value.int b.1), b.2, N)
noncomputable def fX4_tear   (M : Mi) : Option (Int32 × Mi) := (some ((if (M 8 0) = 0 then 0 else 1 : Int32), (wM M 8 0 0)))
theorem bX4_tear {Z : Zt} {E : Ec} {N : Ml} (C : Ok 1 Z E cX4_tear 2 RX4 (some .int) 0)    (M : Mi)  : GT Z E 2 (finX4_tear N) 0 [(0, .ref (zA Z 8 0))] [] M N (fX4_tear M) := by
  unfold fX4_tear
  refine r_aload_n C dX4_tear_0 0 0 rfl rfl ?_
  refine gf_X4_47 (v := (M 8 0)) C dX4_tear_1 rfl ?_
  refine r_sel (tj := 12) (sj := [.int (if (M 8 0) = 0 then 0 else 1 : Int32)]) ?_ (fun k2 => ?_)
  · refine r_istore_n (lv' := [(1, .int (if (M 8 0) = 0 then 0 else 1 : Int32)), (0, .ref (zA Z 8 0))]) C dX4_tear_12 1 rfl (by decide) rfl ?_
    refine r_aload_n C dX4_tear_13 0 1 rfl rfl ?_
    refine r_iconst (v := 0) C dX4_tear_14 (by decide) ?_
    refine pf_X4_47 (M' := (wM M 8 0 0)) C dX4_tear_15 (Or.inl rfl) rfl ?_
    refine r_iload_n C dX4_tear_18 1 0 rfl rfl ?_
    exact r_iret C dX4_tear_19 rfl
  · refine r_same (P := (M 8 0) = 0) ?_
    refine r_if_eq (tgt := 11) C dX4_tear_4 (by decide) (fun c1 => ?_) (fun c1 => ?_)
    · refine r_iconst (v := 0) C dX4_tear_11 (by decide) ?_
      exact r_stk (if_pos c1) k2
    · refine r_iconst (v := 1) C dX4_tear_7 (by decide) ?_
      refine r_goto (tgt := 12) C dX4_tear_8 (by decide) ?_
      exact r_stk (if_neg c1) k2
theorem mX4_tear (l : Launch) {Z : Zt} (hZ : Zok 1 Z) (M : Mi) (N : Ml) (b : Int32 × Mi) (hb : fX4_tear M = some b) : Ct 1 Z l yX4_tear cX4_tear 2 (some .int) 0 [.ref (zA Z 8 0)] M N (some (Value.int b.1), b.2, N) :=
  metG (fin := (finX4_tear N)) (by decide) (Nat.le_of_ble_eq_true rfl) (fun E _ C => bX4_tear C M) hb
theorem dX4_count_0 : decode cX4_count 0 = .ok (.iload_n 1, 1) := by decide +kernel
theorem dX4_count_1 : decode cX4_count 1 = .ok (.tableswitch 66 0 3 #[31, 39, 47, 58], 31) := by decide +kernel
theorem dX4_count_32 : decode cX4_count 32 = .ok (.aload_n 0, 1) := by decide +kernel
theorem dX4_count_33 : decode cX4_count 33 = .ok (.getfield 12, 3) := by decide +kernel
theorem dX4_count_36 : decode cX4_count 36 = .ok (.getfield 272, 3) := by decide +kernel
theorem dX4_count_39 : decode cX4_count 39 = .ok (.ireturn, 1) := by decide +kernel
theorem dX4_count_40 : decode cX4_count 40 = .ok (.aload_n 0, 1) := by decide +kernel
theorem dX4_count_41 : decode cX4_count 41 = .ok (.getfield 32, 3) := by decide +kernel
theorem dX4_count_44 : decode cX4_count 44 = .ok (.getfield 220, 3) := by decide +kernel
theorem dX4_count_47 : decode cX4_count 47 = .ok (.ireturn, 1) := by decide +kernel
theorem dX4_count_48 : decode cX4_count 48 = .ok (.aload_n 0, 1) := by decide +kernel
theorem dX4_count_49 : decode cX4_count 49 = .ok (.getfield 12, 3) := by decide +kernel
theorem dX4_count_52 : decode cX4_count 52 = .ok (.getfield 196, 3) := by decide +kernel
theorem dX4_count_55 : decode cX4_count 55 = .ok (.invokestatic 202, 3) := by decide +kernel
theorem dX4_count_58 : decode cX4_count 58 = .ok (.ireturn, 1) := by decide +kernel
theorem dX4_count_59 : decode cX4_count 59 = .ok (.aload_n 0, 1) := by decide +kernel
theorem dX4_count_60 : decode cX4_count 60 = .ok (.getfield 12, 3) := by decide +kernel
theorem dX4_count_63 : decode cX4_count 63 = .ok (.invokevirtual 275, 3) := by decide +kernel
theorem dX4_count_66 : decode cX4_count 66 = .ok (.ireturn, 1) := by decide +kernel
theorem dX4_count_67 : decode cX4_count 67 = .ok (.aload_n 0, 1) := by decide +kernel
theorem dX4_count_68 : decode cX4_count 68 = .ok (.iconst 0, 1) := by decide +kernel
theorem dX4_count_69 : decode cX4_count 69 = .ok (.invokevirtual 58, 3) := by decide +kernel
theorem dX4_count_72 : decode cX4_count 72 = .ok (.ireturn, 1) := by decide +kernel
def finX4_count (N : Ml) : Int32 × Mi → Option Value × Mi × Ml := fun b => (some (Value.int b.1), b.2, N)
noncomputable def fX4_count   (M : Mi) (x1 : Int32) : Option (Int32 × Mi) := (if x1 = 0 then (some ((M 0 1), M)) else (if x1 = 1 then (some ((M 5 0), M)) else (if x1 = 2 then (some ((fJ6_bitCount_0f7a4 (M 0 2)), M)) else (if x1 = 3 then (Option.bind (fX0_tippedOnes (M 0)) (fun a5 => (some (a5, M)))) else (Option.bind (fX4_finding M 0) (fun a6 => (some (a6.1, (a6.2)))))))))
theorem bX4_count {Z : Zt} {E : Ec} {N : Ml} (C : Ok 1 Z E cX4_count 2 RX4 (some .int) 1)    (M : Mi) (x1 : Int32)  : GT Z E 2 (finX4_count N) 0 [(0, .ref (zA Z 8 0)), (1, .int x1)] [] M N (fX4_count M x1) := by
  unfold fX4_count
  refine r_iload_n C dX4_count_0 1 1 rfl rfl ?_
  refine r_tsw (k := 0) (tgt := 32) C dX4_count_1 (by decide) (by decide) rfl (by decide) (fun c1 => ?_) (fun c1 => ?_)
  · refine r_aload_n C dX4_count_32 0 0 rfl rfl ?_
    refine gf_X4_12 C dX4_count_33 ?_
    refine gf_X4_272 (v := (M 0 1)) C (by decide) dX4_count_36 rfl ?_
    exact r_iret C dX4_count_39 rfl
  · skip
    refine r_tsw (k := 1) (tgt := 40) C dX4_count_1 (by decide) (by decide) rfl (by decide) (fun c2 => ?_) (fun c2 => ?_)
    · refine r_aload_n C dX4_count_40 0 0 rfl rfl ?_
      refine gf_X4_32 C dX4_count_41 ?_
      refine gf_X4_220 (v := (M 5 0)) C dX4_count_44 rfl ?_
      exact r_iret C dX4_count_47 rfl
    · skip
      refine r_tsw (k := 2) (tgt := 48) C dX4_count_1 (by decide) (by decide) rfl (by decide) (fun c3 => ?_) (fun c3 => ?_)
      · refine r_aload_n C dX4_count_48 0 0 rfl rfl ?_
        refine gf_X4_12 C dX4_count_49 ?_
        refine gf_X4_196 (v := (M 0 2)) C (by decide) dX4_count_52 rfl ?_
        refine r_callS (rest := []) (st2 := [.int (fJ6_bitCount_0f7a4 (M 0 2))]) C (mJ6_bitCount_0f7a4 (eL E) C.z _ _ (M 0 2)) lk_X4_202 (by decide) rfl rfl (Nat.le_of_ble_eq_true rfl) dX4_count_55 rfl ?_
        exact r_iret C dX4_count_58 rfl
      · skip
        refine r_tsw (k := 3) (tgt := 59) C dX4_count_1 (by decide) (by decide) rfl (by decide) (fun c4 => ?_) (fun c4 => ?_)
        · refine r_aload_n C dX4_count_59 0 0 rfl rfl ?_
          refine gf_X4_12 C dX4_count_60 ?_
          refine r_bind (fun a5 ha5 => ?_)
          refine r_callV (rest := []) (st2 := [.int a5]) C (mX0_tippedOnes (eL E) C.z (by decide) M _ (M 0) a5 ha5).selfR lk_X4_275 (rvI C (by decide)) (by decide) rfl rfl (Nat.le_of_ble_eq_true rfl) dX4_count_63 rfl ?_
          exact r_iret C dX4_count_66 rfl
        · skip
          refine r_tswd (tgt := 67) C dX4_count_1 (sw_out (lo := 0) (hi := 3) (n := 4) x1 [0, 1, 2, 3] (by decide) rfl (List.forall_mem_cons.mpr ⟨c1, List.forall_mem_cons.mpr ⟨c2, List.forall_mem_cons.mpr ⟨c3, List.forall_mem_cons.mpr ⟨c4, fun _ h => absurd h List.not_mem_nil⟩⟩⟩⟩)) (by decide) ?_
          refine r_aload_n C dX4_count_67 0 0 rfl rfl ?_
          refine r_iconst (v := 0) C dX4_count_68 (by decide) ?_
          refine r_bind (fun a6 ha6 => ?_)
          refine r_callV (rest := []) (st2 := [.int a6.1]) C (mX4_finding (eL E) C.z M N 0 a6 ha6) lk_X4_58 (rvX C) (by decide) rfl rfl (Nat.le_of_ble_eq_true rfl) dX4_count_69 rfl ?_
          exact r_iret C dX4_count_72 rfl
theorem mX4_count (l : Launch) {Z : Zt} (hZ : Zok 1 Z) (M : Mi) (N : Ml) (x1 : Int32) (b : Int32 × Mi) (hb : fX4_count M x1 = some b) : Ct 1 Z l yX4_count cX4_count 2 (some .int) 1 [.ref (zA Z 8 0), .int x1] M N (some (Value.int b.1), b.2, N) :=
  metG (fin := (finX4_count N)) (by decide) (Nat.le_of_ble_eq_true rfl) (fun E _ C => bX4_count C M x1) hb
theorem dX4_status_0 : decode cX4_status 0 = .ok (.iload_n 1, 1) := by decide +kernel
theorem dX4_status_1 : decode cX4_status 1 = .ok (.iconst (-1), 1) := by decide +kernel
theorem dX4_status_2 : decode cX4_status 2 = .ok (.if_icmp .ne 30, 3) := by decide +kernel
theorem dX4_status_5 : decode cX4_status 5 = .ok (.iconst 0, 1) := by decide +kernel
theorem dX4_status_6 : decode cX4_status 6 = .ok (.istore_n 2, 1) := by decide +kernel
theorem dX4_status_7 : decode cX4_status 7 = .ok (.iconst 0, 1) := by decide +kernel
theorem dX4_status_8 : decode cX4_status 8 = .ok (.istore_n 3, 1) := by decide +kernel
theorem dX4_status_9 : decode cX4_status 9 = .ok (.iload_n 3, 1) := by decide +kernel
theorem dX4_status_10 : decode cX4_status 10 = .ok (.bipush 7, 2) := by decide +kernel
theorem dX4_status_12 : decode cX4_status 12 = .ok (.if_icmp .ge 18, 3) := by decide +kernel
theorem dX4_status_15 : decode cX4_status 15 = .ok (.iload_n 2, 1) := by decide +kernel
theorem dX4_status_16 : decode cX4_status 16 = .ok (.aload_n 0, 1) := by decide +kernel
theorem dX4_status_17 : decode cX4_status 17 = .ok (.getfield 43, 3) := by decide +kernel
theorem dX4_status_20 : decode cX4_status 20 = .ok (.iload_n 3, 1) := by decide +kernel
theorem dX4_status_21 : decode cX4_status 21 = .ok (.iaload, 1) := by decide +kernel
theorem dX4_status_22 : decode cX4_status 22 = .ok (.iadd, 1) := by decide +kernel
theorem dX4_status_23 : decode cX4_status 23 = .ok (.istore_n 2, 1) := by decide +kernel
theorem dX4_status_24 : decode cX4_status 24 = .ok (.iinc 3 1, 3) := by decide +kernel
theorem dX4_status_27 : decode cX4_status 27 = .ok (.goto (-18), 3) := by decide +kernel
theorem dX4_status_30 : decode cX4_status 30 = .ok (.iload_n 2, 1) := by decide +kernel
theorem dX4_status_31 : decode cX4_status 31 = .ok (.ireturn, 1) := by decide +kernel
theorem dX4_status_32 : decode cX4_status 32 = .ok (.iload_n 1, 1) := by decide +kernel
theorem dX4_status_33 : decode cX4_status 33 = .ok (.bipush 7, 2) := by decide +kernel
theorem dX4_status_35 : decode cX4_status 35 = .ok (.invokestatic 69, 3) := by decide +kernel
theorem dX4_status_38 : decode cX4_status 38 = .ok (.ifCond .eq 12, 3) := by decide +kernel
theorem dX4_status_41 : decode cX4_status 41 = .ok (.aload_n 0, 1) := by decide +kernel
theorem dX4_status_42 : decode cX4_status 42 = .ok (.getfield 43, 3) := by decide +kernel
theorem dX4_status_45 : decode cX4_status 45 = .ok (.iload_n 1, 1) := by decide +kernel
theorem dX4_status_46 : decode cX4_status 46 = .ok (.iaload, 1) := by decide +kernel
theorem dX4_status_47 : decode cX4_status 47 = .ok (.goto 8, 3) := by decide +kernel
theorem dX4_status_50 : decode cX4_status 50 = .ok (.aload_n 0, 1) := by decide +kernel
theorem dX4_status_51 : decode cX4_status 51 = .ok (.iconst 0, 1) := by decide +kernel
theorem dX4_status_52 : decode cX4_status 52 = .ok (.invokevirtual 58, 3) := by decide +kernel
theorem dX4_status_55 : decode cX4_status 55 = .ok (.ireturn, 1) := by decide +kernel
def finX4_status (N : Ml) : Int32 × Mi → Option Value × Mi × Ml := fun b => (some (Value.int b.1), b.2, N)
noncomputable def fX4_status_9   : Nat → Mi → Int32 → Int32 → Option (Int32 × Mi)
  | 0 => fun _ _ _ => none
  | n + 1 => fun M x2 x3 => (if 7 ≤ x3 then (some (x2, M)) else (if inb x3 7 then ((fX4_status_9 n) M (x2 + (M 7 (ix x3))) (x3 + 1)) else none))
theorem bX4_status_9 {Z : Zt} {E : Ec} {N : Ml} (C : Ok 1 Z E cX4_status 4 RX4 (some .int) 1)    : ∀ (n : Nat) (M : Mi) (x2 : Int32) (x3 : Int32), GT Z E 4 (finX4_status N) 9 [(0, .ref (zA Z 8 0)), (2, .int x2), (3, .int x3)] [] M N (fX4_status_9 n M x2 x3) := by
  intro n
  induction n with
  | zero => intro M x2 x3; exact r_none
  | succ n ih =>
    intro M x2 x3
    rw [fX4_status_9]
    refine r_iload_n C dX4_status_9 3 2 rfl rfl ?_
    refine r_bipush (v := 7) C dX4_status_10 (by decide) ?_
    refine r_ic_ge (tgt := 30) C dX4_status_12 (by decide) (fun c5 => ?_) (fun c5 => ?_)
    · refine r_iload_n C dX4_status_30 2 1 rfl rfl ?_
      exact r_iret C dX4_status_31 rfl
    · refine r_iload_n C dX4_status_15 2 1 rfl rfl ?_
      refine r_aload_n C dX4_status_16 0 0 rfl rfl ?_
      refine gf_X4_43 C dX4_status_17 ?_
      refine r_iload_n C dX4_status_20 3 2 rfl rfl ?_
      refine r_guard (fun h6 => ?_)
      refine ald_F (v := (M 7 (ix x3))) C h6 rfl dX4_status_21 ?_
      refine r_iadd C dX4_status_22 ?_
      refine r_istore_n (lv' := [(2, .int (x2 + (M 7 (ix x3)))), (0, .ref (zA Z 8 0)), (3, .int x3)]) C dX4_status_23 2 rfl (by decide) rfl ?_
      refine r_iinc (v := (x3 + 1)) (lv' := [(3, .int (x3 + 1)), (2, .int (x2 + (M 7 (ix x3)))), (0, .ref (zA Z 8 0))]) C dX4_status_24 2 rfl rfl (by decide) rfl ?_
      refine r_goto (tgt := 9) C dX4_status_27 (by decide) ?_
      refine r_lv [2, 1, 0] (lv' := [(0, .ref (zA Z 8 0)), (2, .int (x2 + (M 7 (ix x3)))), (3, .int (x3 + 1))]) rfl ?_
      exact ih M (x2 + (M 7 (ix x3))) (x3 + 1)
noncomputable def fX4_status   (M : Mi) (x1 : Int32) : Option (Int32 × Mi) := (if x1 = (-1) then (fX4_status_9 fu M 0 0) else (if (fX4_isBelow x1 7) = 0 then (Option.bind (fX4_finding M 0) (fun a3 => (some (a3.1, (a3.2))))) else (if inb x1 7 then (some ((M 7 (ix x1)), M)) else none)))
theorem bX4_status {Z : Zt} {E : Ec} {N : Ml} (C : Ok 1 Z E cX4_status 4 RX4 (some .int) 1)    (M : Mi) (x1 : Int32)  : GT Z E 4 (finX4_status N) 0 [(0, .ref (zA Z 8 0)), (1, .int x1)] [] M N (fX4_status M x1) := by
  unfold fX4_status
  refine r_iload_n C dX4_status_0 1 1 rfl rfl ?_
  refine r_iconst (v := (-1)) C dX4_status_1 (by decide) ?_
  refine r_ic_ne (tgt := 32) C dX4_status_2 (by decide) (fun c1 => ?_) (fun c1 => ?_)
  · refine r_iload_n C dX4_status_32 1 1 rfl rfl ?_
    refine r_bipush (v := 7) C dX4_status_33 (by decide) ?_
    refine r_callS (rest := []) (st2 := [.int (fX4_isBelow x1 7)]) C (mX4_isBelow (eL E) C.z _ _ x1 7) lk_X4_69 (by decide) rfl rfl (Nat.le_of_ble_eq_true rfl) dX4_status_35 rfl ?_
    refine r_if_eq (tgt := 50) C dX4_status_38 (by decide) (fun c2 => ?_) (fun c2 => ?_)
    · refine r_aload_n C dX4_status_50 0 0 rfl rfl ?_
      refine r_iconst (v := 0) C dX4_status_51 (by decide) ?_
      refine r_bind (fun a3 ha3 => ?_)
      refine r_callV (rest := []) (st2 := [.int a3.1]) C (mX4_finding (eL E) C.z M N 0 a3 ha3) lk_X4_58 (rvX C) (by decide) rfl rfl (Nat.le_of_ble_eq_true rfl) dX4_status_52 rfl ?_
      exact r_iret C dX4_status_55 rfl
    · refine r_aload_n C dX4_status_41 0 0 rfl rfl ?_
      refine gf_X4_43 C dX4_status_42 ?_
      refine r_iload_n C dX4_status_45 1 1 rfl rfl ?_
      refine r_guard (fun h4 => ?_)
      refine ald_F (v := (M 7 (ix x1))) C h4 rfl dX4_status_46 ?_
      refine r_goto (tgt := 55) C dX4_status_47 (by decide) ?_
      exact r_iret C dX4_status_55 rfl
  · refine r_iconst (v := 0) C dX4_status_5 (by decide) ?_
    refine r_istore_n (lv' := [(2, .int 0), (0, .ref (zA Z 8 0)), (1, .int x1)]) C dX4_status_6 2 rfl (by decide) rfl ?_
    refine r_iconst (v := 0) C dX4_status_7 (by decide) ?_
    refine r_istore_n (lv' := [(3, .int 0), (2, .int 0), (0, .ref (zA Z 8 0)), (1, .int x1)]) C dX4_status_8 3 rfl (by decide) rfl ?_
    refine r_lv [2, 1, 0] (lv' := [(0, .ref (zA Z 8 0)), (2, .int 0), (3, .int 0)]) rfl ?_
    exact bX4_status_9 C fu M 0 0
theorem mX4_status (l : Launch) {Z : Zt} (hZ : Zok 1 Z) (M : Mi) (N : Ml) (x1 : Int32) (b : Int32 × Mi) (hb : fX4_status M x1 = some b) : Ct 1 Z l yX4_status cX4_status 4 (some .int) 1 [.ref (zA Z 8 0), .int x1] M N (some (Value.int b.1), b.2, N) :=
  metG (fin := (finX4_status N)) (by decide) (Nat.le_of_ble_eq_true rfl) (fun E _ C => bX4_status C M x1) hb
theorem dX5_in_0 : decode cX5_in 0 = .ok (.lload_n 0, 1) := by decide +kernel
theorem dX5_in_1 : decode cX5_in 1 = .ok (.lload_n 2, 1) := by decide +kernel
theorem dX5_in_2 : decode cX5_in 2 = .ok (.lcmp, 1) := by decide +kernel
theorem dX5_in_3 : decode cX5_in 3 = .ok (.ifCond .lt 14, 3) := by decide +kernel
theorem dX5_in_6 : decode cX5_in 6 = .ok (.lload_n 0, 1) := by decide +kernel
theorem dX5_in_7 : decode cX5_in 7 = .ok (.lload 4, 2) := by decide +kernel
theorem dX5_in_9 : decode cX5_in 9 = .ok (.lcmp, 1) := by decide +kernel
theorem dX5_in_10 : decode cX5_in 10 = .ok (.ifCond .gt 7, 3) := by decide +kernel
theorem dX5_in_13 : decode cX5_in 13 = .ok (.iconst 1, 1) := by decide +kernel
theorem dX5_in_14 : decode cX5_in 14 = .ok (.goto 4, 3) := by decide +kernel
theorem dX5_in_17 : decode cX5_in 17 = .ok (.iconst 0, 1) := by decide +kernel
theorem dX5_in_18 : decode cX5_in 18 = .ok (.ireturn, 1) := by decide +kernel
def finX5_in (M : Mi) (N : Ml) : Int32 → Option Value × Mi × Ml := fun b => (some (Value.int b), M, N)
noncomputable def fX5_in   (x0 : Int64) (x2 : Int64) (x4 : Int64) : Int32 := (if x0 < x2 then 0 else (if x4 < x0 then 0 else 1))
theorem bX5_in {Z : Zt} {E : Ec} {M : Mi} {N : Ml} (C : Ok 2 Z E cX5_in 6 RX5 (some .boolean) 0)    (x0 : Int64) (x2 : Int64) (x4 : Int64)  : GT Z E 6 (finX5_in M N) 0 [(0, .long x0), (2, .long x2), (4, .long x4)] [] M N (some (fX5_in x0 x2 x4)) := by
  unfold fX5_in
  refine r_lload_n C dX5_in_0 0 0 rfl rfl ?_
  refine r_lload_n C dX5_in_1 2 1 rfl rfl ?_
  refine r_st ?_
  refine r_lc_lt (tgt := 17) C dX5_in_2 dX5_in_3 (by decide) (fun c1 => ?_) (fun c1 => ?_)
  · refine r_iconst (v := 0) C dX5_in_17 (by decide) ?_
    exact r_zret C dX5_in_18 (Or.inl rfl) rfl
  · refine r_lload_n C dX5_in_6 0 0 rfl rfl ?_
    refine r_lload C dX5_in_7 2 rfl ?_
    refine r_st ?_
    refine r_lc_gt (tgt := 17) C dX5_in_9 dX5_in_10 (by decide) (fun c2 => ?_) (fun c2 => ?_)
    · refine r_iconst (v := 0) C dX5_in_17 (by decide) ?_
      exact r_zret C dX5_in_18 (Or.inl rfl) rfl
    · refine r_iconst (v := 1) C dX5_in_13 (by decide) ?_
      refine r_goto (tgt := 18) C dX5_in_14 (by decide) ?_
      exact r_zret C dX5_in_18 (Or.inr rfl) rfl
theorem zbX5_in (x0 : Int64) (x2 : Int64) (x4 : Int64) : fX5_in x0 x2 x4 = 0 ∨ fX5_in x0 x2 x4 = 1 := by
  unfold fX5_in; (repeat' split) <;> first | exact Or.inl rfl | exact Or.inr rfl
theorem mX5_in (l : Launch) {Z : Zt} (hZ : Zok 2 Z) (M : Mi) (N : Ml) (x0 : Int64) (x2 : Int64) (x4 : Int64) : Ct 2 Z l yX5_in cX5_in 6 (some .boolean) 0 [.long x0, .long x2, .long x4] M N (some (Value.int (fX5_in x0 x2 x4)), M, N) :=
  metG (fin := (finX5_in M N)) (by decide) (Nat.le_of_ble_eq_true rfl) (fun E _ C => bX5_in C x0 x2 x4) rfl
theorem dX5_finds_0 : decode cX5_finds 0 = .ok (.aload_n 0, 1) := by decide +kernel
theorem dX5_finds_1 : decode cX5_finds 1 = .ok (.getfield 22, 3) := by decide +kernel
theorem dX5_finds_4 : decode cX5_finds 4 = .ok (.ldc 41, 2) := by decide +kernel
theorem dX5_finds_6 : decode cX5_finds 6 = .ok (.iload_n 1, 1) := by decide +kernel
theorem dX5_finds_7 : decode cX5_finds 7 = .ok (.isub, 1) := by decide +kernel
theorem dX5_finds_8 : decode cX5_finds 8 = .ok (.dup2, 1) := by decide +kernel
theorem dX5_finds_9 : decode cX5_finds 9 = .ok (.iaload, 1) := by decide +kernel
theorem dX5_finds_10 : decode cX5_finds 10 = .ok (.iconst 1, 1) := by decide +kernel
theorem dX5_finds_11 : decode cX5_finds 11 = .ok (.iadd, 1) := by decide +kernel
theorem dX5_finds_12 : decode cX5_finds 12 = .ok (.iastore, 1) := by decide +kernel
theorem dX5_finds_13 : decode cX5_finds 13 = .ok (.iload_n 1, 1) := by decide +kernel
theorem dX5_finds_14 : decode cX5_finds 14 = .ok (.ireturn, 1) := by decide +kernel
def finX5_finds (N : Ml) : Int32 × Mi → Option Value × Mi × Ml := fun b => (some (Value.int b.1), b.2, N)
noncomputable def fX5_finds   (M : Mi) (x1 : Int32) : Option (Int32 × Mi) := (if inb ((-1000000001) - x1) 7 then (some (x1, (wM M 4 (ix ((-1000000001) - x1)) ((M 4 (ix ((-1000000001) - x1))) + 1)))) else none)
theorem bX5_finds {Z : Zt} {E : Ec} {N : Ml} (C : Ok 2 Z E cX5_finds 2 RX5 (some .int) 0)    (M : Mi) (x1 : Int32)  : GT Z E 2 (finX5_finds N) 0 [(0, .ref (zA Z 6 0)), (1, .int x1)] [] M N (fX5_finds M x1) := by
  unfold fX5_finds
  refine r_aload_n C dX5_finds_0 0 0 rfl rfl ?_
  refine gf_X5_22 C dX5_finds_1 ?_
  refine r_ldc (v := (-1000000001)) C dX5_finds_4 wd_859 ?_
  refine r_iload_n C dX5_finds_6 1 1 rfl rfl ?_
  refine r_isub C dX5_finds_7 ?_
  refine r_dup2 C dX5_finds_8 rfl rfl ?_
  refine r_guard (fun h1 => ?_)
  refine ald_M (v := (M 4 (ix ((-1000000001) - x1)))) C mI_4 h1 rfl dX5_finds_9 ?_
  refine r_iconst (v := 1) C dX5_finds_10 (by decide) ?_
  refine r_iadd C dX5_finds_11 ?_
  refine ast_M (M' := (wM M 4 (ix ((-1000000001) - x1)) ((M 4 (ix ((-1000000001) - x1))) + 1))) C mI_4 h1 rfl dX5_finds_12 ?_
  refine r_iload_n C dX5_finds_13 1 1 rfl rfl ?_
  exact r_iret C dX5_finds_14 rfl
theorem mX5_finds (l : Launch) {Z : Zt} (hZ : Zok 2 Z) (M : Mi) (N : Ml) (x1 : Int32) (b : Int32 × Mi) (hb : fX5_finds M x1 = some b) : Ct 2 Z l yX5_finds cX5_finds 2 (some .int) 0 [.ref (zA Z 6 0), .int x1] M N (some (Value.int b.1), b.2, N) :=
  metG (fin := (finX5_finds N)) (by decide) (Nat.le_of_ble_eq_true rfl) (fun E _ C => bX5_finds C M x1) hb
theorem dX5_saves_0 : decode cX5_saves 0 = .ok (.iconst 0, 1) := by decide +kernel
theorem dX5_saves_1 : decode cX5_saves 1 = .ok (.istore_n 1, 1) := by decide +kernel
theorem dX5_saves_2 : decode cX5_saves 2 = .ok (.iload_n 1, 1) := by decide +kernel
theorem dX5_saves_3 : decode cX5_saves 3 = .ok (.bipush 39, 2) := by decide +kernel
theorem dX5_saves_5 : decode cX5_saves 5 = .ok (.if_icmp .ge 21, 3) := by decide +kernel
theorem dX5_saves_8 : decode cX5_saves 8 = .ok (.aload_n 0, 1) := by decide +kernel
theorem dX5_saves_9 : decode cX5_saves 9 = .ok (.getfield 16, 3) := by decide +kernel
theorem dX5_saves_12 : decode cX5_saves 12 = .ok (.iload_n 1, 1) := by decide +kernel
theorem dX5_saves_13 : decode cX5_saves 13 = .ok (.aload_n 0, 1) := by decide +kernel
theorem dX5_saves_14 : decode cX5_saves 14 = .ok (.getfield 7, 3) := by decide +kernel
theorem dX5_saves_17 : decode cX5_saves 17 = .ok (.iload_n 1, 1) := by decide +kernel
theorem dX5_saves_18 : decode cX5_saves 18 = .ok (.iaload, 1) := by decide +kernel
theorem dX5_saves_19 : decode cX5_saves 19 = .ok (.iastore, 1) := by decide +kernel
theorem dX5_saves_20 : decode cX5_saves 20 = .ok (.iinc 1 1, 3) := by decide +kernel
theorem dX5_saves_23 : decode cX5_saves 23 = .ok (.goto (-21), 3) := by decide +kernel
theorem dX5_saves_26 : decode cX5_saves 26 = .ok (.return_, 1) := by decide +kernel
def finX5_saves (N : Ml) : Mi → Option Value × Mi × Ml := fun b => (none, b, N)
noncomputable def fX5_saves_2   : Nat → Mi → Int32 → Option (Mi)
  | 0 => fun _ _ => none
  | n + 1 => fun M x1 => (if 39 ≤ x1 then (some M) else (if inb x1 39 then ((fX5_saves_2 n) (wM M 2 (ix x1) (M 0 (ix x1))) (x1 + 1)) else none))
theorem bX5_saves_2 {Z : Zt} {E : Ec} {N : Ml} (C : Ok 2 Z E cX5_saves 2 RX5 none 0)    : ∀ (n : Nat) (M : Mi) (x1 : Int32), GT Z E 2 (finX5_saves N) 2 [(0, .ref (zA Z 6 0)), (1, .int x1)] [] M N (fX5_saves_2 n M x1) := by
  intro n
  induction n with
  | zero => intro M x1; exact r_none
  | succ n ih =>
    intro M x1
    rw [fX5_saves_2]
    refine r_iload_n C dX5_saves_2 1 1 rfl rfl ?_
    refine r_bipush (v := 39) C dX5_saves_3 (by decide) ?_
    refine r_ic_ge (tgt := 26) C dX5_saves_5 (by decide) (fun c1 => ?_) (fun c1 => ?_)
    · exact r_vret C dX5_saves_26 rfl
    · refine r_aload_n C dX5_saves_8 0 0 rfl rfl ?_
      refine gf_X5_16 C dX5_saves_9 ?_
      refine r_iload_n C dX5_saves_12 1 1 rfl rfl ?_
      refine r_aload_n C dX5_saves_13 0 0 rfl rfl ?_
      refine gf_X5_7 C dX5_saves_14 ?_
      refine r_iload_n C dX5_saves_17 1 1 rfl rfl ?_
      refine r_guard (fun h2 => ?_)
      refine ald_M (v := (M 0 (ix x1))) C mI_0 h2 rfl dX5_saves_18 ?_
      refine ast_M (M' := (wM M 2 (ix x1) (M 0 (ix x1)))) C mI_2 h2 rfl dX5_saves_19 ?_
      refine r_iinc (v := (x1 + 1)) (lv' := [(1, .int (x1 + 1)), (0, .ref (zA Z 6 0))]) C dX5_saves_20 1 rfl rfl (by decide) rfl ?_
      refine r_goto (tgt := 2) C dX5_saves_23 (by decide) ?_
      refine r_lv [1, 0] (lv' := [(0, .ref (zA Z 6 0)), (1, .int (x1 + 1))]) rfl ?_
      exact ih (wM M 2 (ix x1) (M 0 (ix x1))) (x1 + 1)
noncomputable def fX5_saves   (M : Mi) : Option (Mi) := (fX5_saves_2 fu M 0)
theorem bX5_saves {Z : Zt} {E : Ec} {N : Ml} (C : Ok 2 Z E cX5_saves 2 RX5 none 0)    (M : Mi)  : GT Z E 2 (finX5_saves N) 0 [(0, .ref (zA Z 6 0))] [] M N (fX5_saves M) := by
  unfold fX5_saves
  refine r_iconst (v := 0) C dX5_saves_0 (by decide) ?_
  refine r_istore_n (lv' := [(1, .int 0), (0, .ref (zA Z 6 0))]) C dX5_saves_1 1 rfl (by decide) rfl ?_
  refine r_lv [1, 0] (lv' := [(0, .ref (zA Z 6 0)), (1, .int 0)]) rfl ?_
  exact bX5_saves_2 C fu M 0
theorem mX5_saves (l : Launch) {Z : Zt} (hZ : Zok 2 Z) (M : Mi) (N : Ml) (b : Mi) (hb : fX5_saves M = some b) : Ct 2 Z l yX5_saves cX5_saves 2 none 0 [.ref (zA Z 6 0)] M N (none, b, N) :=
  metG (fin := (finX5_saves N)) (by decide) (Nat.le_of_ble_eq_true rfl) (fun E _ C => bX5_saves C M) hb
theorem dX5_putsBack_0 : decode cX5_putsBack 0 = .ok (.iconst 0, 1) := by decide +kernel
theorem dX5_putsBack_1 : decode cX5_putsBack 1 = .ok (.istore_n 1, 1) := by decide +kernel
theorem dX5_putsBack_2 : decode cX5_putsBack 2 = .ok (.iload_n 1, 1) := by decide +kernel
theorem dX5_putsBack_3 : decode cX5_putsBack 3 = .ok (.bipush 39, 2) := by decide +kernel
theorem dX5_putsBack_5 : decode cX5_putsBack 5 = .ok (.if_icmp .ge 21, 3) := by decide +kernel
theorem dX5_putsBack_8 : decode cX5_putsBack 8 = .ok (.aload_n 0, 1) := by decide +kernel
theorem dX5_putsBack_9 : decode cX5_putsBack 9 = .ok (.getfield 7, 3) := by decide +kernel
theorem dX5_putsBack_12 : decode cX5_putsBack 12 = .ok (.iload_n 1, 1) := by decide +kernel
theorem dX5_putsBack_13 : decode cX5_putsBack 13 = .ok (.aload_n 0, 1) := by decide +kernel
theorem dX5_putsBack_14 : decode cX5_putsBack 14 = .ok (.getfield 16, 3) := by decide +kernel
theorem dX5_putsBack_17 : decode cX5_putsBack 17 = .ok (.iload_n 1, 1) := by decide +kernel
theorem dX5_putsBack_18 : decode cX5_putsBack 18 = .ok (.iaload, 1) := by decide +kernel
theorem dX5_putsBack_19 : decode cX5_putsBack 19 = .ok (.iastore, 1) := by decide +kernel
theorem dX5_putsBack_20 : decode cX5_putsBack 20 = .ok (.iinc 1 1, 3) := by decide +kernel
theorem dX5_putsBack_23 : decode cX5_putsBack 23 = .ok (.goto (-21), 3) := by decide +kernel
theorem dX5_putsBack_26 : decode cX5_putsBack 26 = .ok (.return_, 1) := by decide +kernel
def finX5_putsBack (N : Ml) : Mi → Option Value × Mi × Ml := fun b => (none, b, N)
noncomputable def fX5_putsBack_2   : Nat → Mi → Int32 → Option (Mi)
  | 0 => fun _ _ => none
  | n + 1 => fun M x1 => (if 39 ≤ x1 then (some M) else (if inb x1 39 then ((fX5_putsBack_2 n) (wM M 0 (ix x1) (M 2 (ix x1))) (x1 + 1)) else none))
theorem bX5_putsBack_2 {Z : Zt} {E : Ec} {N : Ml} (C : Ok 2 Z E cX5_putsBack 2 RX5 none 0)    : ∀ (n : Nat) (M : Mi) (x1 : Int32), GT Z E 2 (finX5_putsBack N) 2 [(0, .ref (zA Z 6 0)), (1, .int x1)] [] M N (fX5_putsBack_2 n M x1) := by
  intro n
  induction n with
  | zero => intro M x1; exact r_none
  | succ n ih =>
    intro M x1
    rw [fX5_putsBack_2]
    refine r_iload_n C dX5_putsBack_2 1 1 rfl rfl ?_
    refine r_bipush (v := 39) C dX5_putsBack_3 (by decide) ?_
    refine r_ic_ge (tgt := 26) C dX5_putsBack_5 (by decide) (fun c1 => ?_) (fun c1 => ?_)
    · exact r_vret C dX5_putsBack_26 rfl
    · refine r_aload_n C dX5_putsBack_8 0 0 rfl rfl ?_
      refine gf_X5_7 C dX5_putsBack_9 ?_
      refine r_iload_n C dX5_putsBack_12 1 1 rfl rfl ?_
      refine r_aload_n C dX5_putsBack_13 0 0 rfl rfl ?_
      refine gf_X5_16 C dX5_putsBack_14 ?_
      refine r_iload_n C dX5_putsBack_17 1 1 rfl rfl ?_
      refine r_guard (fun h2 => ?_)
      refine ald_M (v := (M 2 (ix x1))) C mI_2 h2 rfl dX5_putsBack_18 ?_
      refine ast_M (M' := (wM M 0 (ix x1) (M 2 (ix x1)))) C mI_0 h2 rfl dX5_putsBack_19 ?_
      refine r_iinc (v := (x1 + 1)) (lv' := [(1, .int (x1 + 1)), (0, .ref (zA Z 6 0))]) C dX5_putsBack_20 1 rfl rfl (by decide) rfl ?_
      refine r_goto (tgt := 2) C dX5_putsBack_23 (by decide) ?_
      refine r_lv [1, 0] (lv' := [(0, .ref (zA Z 6 0)), (1, .int (x1 + 1))]) rfl ?_
      exact ih (wM M 0 (ix x1) (M 2 (ix x1))) (x1 + 1)
noncomputable def fX5_putsBack   (M : Mi) : Option (Mi) := (fX5_putsBack_2 fu M 0)
theorem bX5_putsBack {Z : Zt} {E : Ec} {N : Ml} (C : Ok 2 Z E cX5_putsBack 2 RX5 none 0)    (M : Mi)  : GT Z E 2 (finX5_putsBack N) 0 [(0, .ref (zA Z 6 0))] [] M N (fX5_putsBack M) := by
  unfold fX5_putsBack
  refine r_iconst (v := 0) C dX5_putsBack_0 (by decide) ?_
  refine r_istore_n (lv' := [(1, .int 0), (0, .ref (zA Z 6 0))]) C dX5_putsBack_1 1 rfl (by decide) rfl ?_
  refine r_lv [1, 0] (lv' := [(0, .ref (zA Z 6 0)), (1, .int 0)]) rfl ?_
  exact bX5_putsBack_2 C fu M 0
theorem mX5_putsBack (l : Launch) {Z : Zt} (hZ : Zok 2 Z) (M : Mi) (N : Ml) (b : Mi) (hb : fX5_putsBack M = some b) : Ct 2 Z l yX5_putsBack cX5_putsBack 2 none 0 [.ref (zA Z 6 0)] M N (none, b, N) :=
  metG (fin := (finX5_putsBack N)) (by decide) (Nat.le_of_ble_eq_true rfl) (fun E _ C => bX5_putsBack C M) hb
theorem dX5_laysAside_0 : decode cX5_laysAside 0 = .ok (.iconst 0, 1) := by decide +kernel
theorem dX5_laysAside_1 : decode cX5_laysAside 1 = .ok (.istore_n 1, 1) := by decide +kernel
theorem dX5_laysAside_2 : decode cX5_laysAside 2 = .ok (.iload_n 1, 1) := by decide +kernel
theorem dX5_laysAside_3 : decode cX5_laysAside 3 = .ok (.bipush 39, 2) := by decide +kernel
theorem dX5_laysAside_5 : decode cX5_laysAside 5 = .ok (.if_icmp .ge 21, 3) := by decide +kernel
theorem dX5_laysAside_8 : decode cX5_laysAside 8 = .ok (.aload_n 0, 1) := by decide +kernel
theorem dX5_laysAside_9 : decode cX5_laysAside 9 = .ok (.getfield 19, 3) := by decide +kernel
theorem dX5_laysAside_12 : decode cX5_laysAside 12 = .ok (.iload_n 1, 1) := by decide +kernel
theorem dX5_laysAside_13 : decode cX5_laysAside 13 = .ok (.aload_n 0, 1) := by decide +kernel
theorem dX5_laysAside_14 : decode cX5_laysAside 14 = .ok (.getfield 7, 3) := by decide +kernel
theorem dX5_laysAside_17 : decode cX5_laysAside 17 = .ok (.iload_n 1, 1) := by decide +kernel
theorem dX5_laysAside_18 : decode cX5_laysAside 18 = .ok (.iaload, 1) := by decide +kernel
theorem dX5_laysAside_19 : decode cX5_laysAside 19 = .ok (.iastore, 1) := by decide +kernel
theorem dX5_laysAside_20 : decode cX5_laysAside 20 = .ok (.iinc 1 1, 3) := by decide +kernel
theorem dX5_laysAside_23 : decode cX5_laysAside 23 = .ok (.goto (-21), 3) := by decide +kernel
theorem dX5_laysAside_26 : decode cX5_laysAside 26 = .ok (.return_, 1) := by decide +kernel
def finX5_laysAside (N : Ml) : Mi → Option Value × Mi × Ml := fun b => (none, b, N)
noncomputable def fX5_laysAside_2   : Nat → Mi → Int32 → Option (Mi)
  | 0 => fun _ _ => none
  | n + 1 => fun M x1 => (if 39 ≤ x1 then (some M) else (if inb x1 39 then ((fX5_laysAside_2 n) (wM M 3 (ix x1) (M 0 (ix x1))) (x1 + 1)) else none))
theorem bX5_laysAside_2 {Z : Zt} {E : Ec} {N : Ml} (C : Ok 2 Z E cX5_laysAside 2 RX5 none 0)    : ∀ (n : Nat) (M : Mi) (x1 : Int32), GT Z E 2 (finX5_laysAside N) 2 [(0, .ref (zA Z 6 0)), (1, .int x1)] [] M N (fX5_laysAside_2 n M x1) := by
  intro n
  induction n with
  | zero => intro M x1; exact r_none
  | succ n ih =>
    intro M x1
    rw [fX5_laysAside_2]
    refine r_iload_n C dX5_laysAside_2 1 1 rfl rfl ?_
    refine r_bipush (v := 39) C dX5_laysAside_3 (by decide) ?_
    refine r_ic_ge (tgt := 26) C dX5_laysAside_5 (by decide) (fun c1 => ?_) (fun c1 => ?_)
    · exact r_vret C dX5_laysAside_26 rfl
    · refine r_aload_n C dX5_laysAside_8 0 0 rfl rfl ?_
      refine gf_X5_19 C dX5_laysAside_9 ?_
      refine r_iload_n C dX5_laysAside_12 1 1 rfl rfl ?_
      refine r_aload_n C dX5_laysAside_13 0 0 rfl rfl ?_
      refine gf_X5_7 C dX5_laysAside_14 ?_
      refine r_iload_n C dX5_laysAside_17 1 1 rfl rfl ?_
      refine r_guard (fun h2 => ?_)
      refine ald_M (v := (M 0 (ix x1))) C mI_0 h2 rfl dX5_laysAside_18 ?_
      refine ast_M (M' := (wM M 3 (ix x1) (M 0 (ix x1)))) C mI_3 h2 rfl dX5_laysAside_19 ?_
      refine r_iinc (v := (x1 + 1)) (lv' := [(1, .int (x1 + 1)), (0, .ref (zA Z 6 0))]) C dX5_laysAside_20 1 rfl rfl (by decide) rfl ?_
      refine r_goto (tgt := 2) C dX5_laysAside_23 (by decide) ?_
      refine r_lv [1, 0] (lv' := [(0, .ref (zA Z 6 0)), (1, .int (x1 + 1))]) rfl ?_
      exact ih (wM M 3 (ix x1) (M 0 (ix x1))) (x1 + 1)
noncomputable def fX5_laysAside   (M : Mi) : Option (Mi) := (fX5_laysAside_2 fu M 0)
theorem bX5_laysAside {Z : Zt} {E : Ec} {N : Ml} (C : Ok 2 Z E cX5_laysAside 2 RX5 none 0)    (M : Mi)  : GT Z E 2 (finX5_laysAside N) 0 [(0, .ref (zA Z 6 0))] [] M N (fX5_laysAside M) := by
  unfold fX5_laysAside
  refine r_iconst (v := 0) C dX5_laysAside_0 (by decide) ?_
  refine r_istore_n (lv' := [(1, .int 0), (0, .ref (zA Z 6 0))]) C dX5_laysAside_1 1 rfl (by decide) rfl ?_
  refine r_lv [1, 0] (lv' := [(0, .ref (zA Z 6 0)), (1, .int 0)]) rfl ?_
  exact bX5_laysAside_2 C fu M 0
theorem mX5_laysAside (l : Launch) {Z : Zt} (hZ : Zok 2 Z) (M : Mi) (N : Ml) (b : Mi) (hb : fX5_laysAside M = some b) : Ct 2 Z l yX5_laysAside cX5_laysAside 2 none 0 [.ref (zA Z 6 0)] M N (none, b, N) :=
  metG (fin := (finX5_laysAside N)) (by decide) (Nat.le_of_ble_eq_true rfl) (fun E _ C => bX5_laysAside C M) hb
theorem dX5_takesBack_0 : decode cX5_takesBack 0 = .ok (.iconst 0, 1) := by decide +kernel
theorem dX5_takesBack_1 : decode cX5_takesBack 1 = .ok (.istore_n 2, 1) := by decide +kernel
theorem dX5_takesBack_2 : decode cX5_takesBack 2 = .ok (.iload_n 2, 1) := by decide +kernel
theorem dX5_takesBack_3 : decode cX5_takesBack 3 = .ok (.bipush 39, 2) := by decide +kernel
theorem dX5_takesBack_5 : decode cX5_takesBack 5 = .ok (.if_icmp .ge 21, 3) := by decide +kernel
theorem dX5_takesBack_8 : decode cX5_takesBack 8 = .ok (.aload_n 0, 1) := by decide +kernel
theorem dX5_takesBack_9 : decode cX5_takesBack 9 = .ok (.getfield 7, 3) := by decide +kernel
theorem dX5_takesBack_12 : decode cX5_takesBack 12 = .ok (.iload_n 2, 1) := by decide +kernel
theorem dX5_takesBack_13 : decode cX5_takesBack 13 = .ok (.aload_n 0, 1) := by decide +kernel
theorem dX5_takesBack_14 : decode cX5_takesBack 14 = .ok (.getfield 19, 3) := by decide +kernel
theorem dX5_takesBack_17 : decode cX5_takesBack 17 = .ok (.iload_n 2, 1) := by decide +kernel
theorem dX5_takesBack_18 : decode cX5_takesBack 18 = .ok (.iaload, 1) := by decide +kernel
theorem dX5_takesBack_19 : decode cX5_takesBack 19 = .ok (.iastore, 1) := by decide +kernel
theorem dX5_takesBack_20 : decode cX5_takesBack 20 = .ok (.iinc 2 1, 3) := by decide +kernel
theorem dX5_takesBack_23 : decode cX5_takesBack 23 = .ok (.goto (-21), 3) := by decide +kernel
theorem dX5_takesBack_26 : decode cX5_takesBack 26 = .ok (.iload_n 1, 1) := by decide +kernel
theorem dX5_takesBack_27 : decode cX5_takesBack 27 = .ok (.ireturn, 1) := by decide +kernel
def finX5_takesBack (N : Ml) : Int32 × Mi → Option Value × Mi × Ml := fun b => (some (Value.int b.1), b.2, N)
noncomputable def fX5_takesBack_2   : Nat → Mi → Int32 → Int32 → Option (Int32 × Mi)
  | 0 => fun _ _ _ => none
  | n + 1 => fun M x1 x2 => (if 39 ≤ x2 then (some (x1, M)) else (if inb x2 39 then ((fX5_takesBack_2 n) (wM M 0 (ix x2) (M 3 (ix x2))) x1 (x2 + 1)) else none))
theorem bX5_takesBack_2 {Z : Zt} {E : Ec} {N : Ml} (C : Ok 2 Z E cX5_takesBack 3 RX5 (some .int) 0)    : ∀ (n : Nat) (M : Mi) (x1 : Int32) (x2 : Int32), GT Z E 3 (finX5_takesBack N) 2 [(0, .ref (zA Z 6 0)), (1, .int x1), (2, .int x2)] [] M N (fX5_takesBack_2 n M x1 x2) := by
  intro n
  induction n with
  | zero => intro M x1 x2; exact r_none
  | succ n ih =>
    intro M x1 x2
    rw [fX5_takesBack_2]
    refine r_iload_n C dX5_takesBack_2 2 2 rfl rfl ?_
    refine r_bipush (v := 39) C dX5_takesBack_3 (by decide) ?_
    refine r_ic_ge (tgt := 26) C dX5_takesBack_5 (by decide) (fun c1 => ?_) (fun c1 => ?_)
    · refine r_iload_n C dX5_takesBack_26 1 1 rfl rfl ?_
      exact r_iret C dX5_takesBack_27 rfl
    · refine r_aload_n C dX5_takesBack_8 0 0 rfl rfl ?_
      refine gf_X5_7 C dX5_takesBack_9 ?_
      refine r_iload_n C dX5_takesBack_12 2 2 rfl rfl ?_
      refine r_aload_n C dX5_takesBack_13 0 0 rfl rfl ?_
      refine gf_X5_19 C dX5_takesBack_14 ?_
      refine r_iload_n C dX5_takesBack_17 2 2 rfl rfl ?_
      refine r_guard (fun h2 => ?_)
      refine ald_M (v := (M 3 (ix x2))) C mI_3 h2 rfl dX5_takesBack_18 ?_
      refine ast_M (M' := (wM M 0 (ix x2) (M 3 (ix x2)))) C mI_0 h2 rfl dX5_takesBack_19 ?_
      refine r_iinc (v := (x2 + 1)) (lv' := [(2, .int (x2 + 1)), (0, .ref (zA Z 6 0)), (1, .int x1)]) C dX5_takesBack_20 2 rfl rfl (by decide) rfl ?_
      refine r_goto (tgt := 2) C dX5_takesBack_23 (by decide) ?_
      refine r_lv [1, 2, 0] (lv' := [(0, .ref (zA Z 6 0)), (1, .int x1), (2, .int (x2 + 1))]) rfl ?_
      exact ih (wM M 0 (ix x2) (M 3 (ix x2))) x1 (x2 + 1)
noncomputable def fX5_takesBack   (M : Mi) (x1 : Int32) : Option (Int32 × Mi) := (fX5_takesBack_2 fu M x1 0)
theorem bX5_takesBack {Z : Zt} {E : Ec} {N : Ml} (C : Ok 2 Z E cX5_takesBack 3 RX5 (some .int) 0)    (M : Mi) (x1 : Int32)  : GT Z E 3 (finX5_takesBack N) 0 [(0, .ref (zA Z 6 0)), (1, .int x1)] [] M N (fX5_takesBack M x1) := by
  unfold fX5_takesBack
  refine r_iconst (v := 0) C dX5_takesBack_0 (by decide) ?_
  refine r_istore_n (lv' := [(2, .int 0), (0, .ref (zA Z 6 0)), (1, .int x1)]) C dX5_takesBack_1 2 rfl (by decide) rfl ?_
  refine r_lv [1, 2, 0] (lv' := [(0, .ref (zA Z 6 0)), (1, .int x1), (2, .int 0)]) rfl ?_
  exact bX5_takesBack_2 C fu M x1 0
theorem mX5_takesBack (l : Launch) {Z : Zt} (hZ : Zok 2 Z) (M : Mi) (N : Ml) (x1 : Int32) (b : Int32 × Mi) (hb : fX5_takesBack M x1 = some b) : Ct 2 Z l yX5_takesBack cX5_takesBack 3 (some .int) 0 [.ref (zA Z 6 0), .int x1] M N (some (Value.int b.1), b.2, N) :=
  metG (fin := (finX5_takesBack N)) (by decide) (Nat.le_of_ble_eq_true rfl) (fun E _ C => bX5_takesBack C M x1) hb
theorem dX5_becomes_0 : decode cX5_becomes 0 = .ok (.aload_n 0, 1) := by decide +kernel
theorem dX5_becomes_1 : decode cX5_becomes 1 = .ok (.getfield 7, 3) := by decide +kernel
theorem dX5_becomes_4 : decode cX5_becomes 4 = .ok (.iload_n 1, 1) := by decide +kernel
theorem dX5_becomes_5 : decode cX5_becomes 5 = .ok (.iaload, 1) := by decide +kernel
theorem dX5_becomes_6 : decode cX5_becomes 6 = .ok (.istore_n 3, 1) := by decide +kernel
theorem dX5_becomes_7 : decode cX5_becomes 7 = .ok (.aload_n 0, 1) := by decide +kernel
theorem dX5_becomes_8 : decode cX5_becomes 8 = .ok (.getfield 7, 3) := by decide +kernel
theorem dX5_becomes_11 : decode cX5_becomes 11 = .ok (.iload_n 1, 1) := by decide +kernel
theorem dX5_becomes_12 : decode cX5_becomes 12 = .ok (.iload_n 2, 1) := by decide +kernel
theorem dX5_becomes_13 : decode cX5_becomes 13 = .ok (.iastore, 1) := by decide +kernel
theorem dX5_becomes_14 : decode cX5_becomes 14 = .ok (.iload_n 3, 1) := by decide +kernel
theorem dX5_becomes_15 : decode cX5_becomes 15 = .ok (.ireturn, 1) := by decide +kernel
def finX5_becomes (M0 : Mi) (N : Ml) : Int32 × (Nat → Int32) → Option Value × Mi × Ml := fun b => (some (Value.int b.1), sR M0 0 (b.2), N)
noncomputable def fX5_becomes   (σ : Nat → Int32) (x1 : Int32) (x2 : Int32) : Option (Int32 × (Nat → Int32)) := (if inb x1 39 then (some ((σ (ix x1)), (upd σ (ix x1) x2))) else none)
theorem bX5_becomes {Z : Zt} {E : Ec} {M0 : Mi} {N : Ml} (C : Ok 2 Z E cX5_becomes 4 RX5 (some .int) 0)    (σ : Nat → Int32) (x1 : Int32) (x2 : Int32)  : GT Z E 4 (finX5_becomes M0 N) 0 [(0, .ref (zA Z 6 0)), (1, .int x1), (2, .int x2)] [] (sR M0 0 σ) N (fX5_becomes σ x1 x2) := by
  unfold fX5_becomes
  refine r_aload_n C dX5_becomes_0 0 0 rfl rfl ?_
  refine gf_X5_7 C dX5_becomes_1 ?_
  refine r_iload_n C dX5_becomes_4 1 1 rfl rfl ?_
  refine r_guard (fun h1 => ?_)
  refine ald_M (v := (σ (ix x1))) C mI_0 h1 (sR_at _ _ _ _) dX5_becomes_5 ?_
  refine r_istore_n (lv' := [(3, .int (σ (ix x1))), (0, .ref (zA Z 6 0)), (1, .int x1), (2, .int x2)]) C dX5_becomes_6 3 rfl (by decide) rfl ?_
  refine r_aload_n C dX5_becomes_7 0 1 rfl rfl ?_
  refine gf_X5_7 C dX5_becomes_8 ?_
  refine r_iload_n C dX5_becomes_11 1 2 rfl rfl ?_
  refine r_iload_n C dX5_becomes_12 2 3 rfl rfl ?_
  refine ast_M (M' := (sR M0 0 (upd σ (ix x1) x2))) C mI_0 h1 (wM_sR _ _ _ _ _) dX5_becomes_13 ?_
  refine r_iload_n C dX5_becomes_14 3 0 rfl rfl ?_
  exact r_iret C dX5_becomes_15 rfl
theorem mX5_becomes (l : Launch) {Z : Zt} (hZ : Zok 2 Z) (M0 : Mi) (N : Ml) (σ : Nat → Int32) (x1 : Int32) (x2 : Int32) (b : Int32 × (Nat → Int32)) (hb : fX5_becomes σ x1 x2 = some b) : Ct 2 Z l yX5_becomes cX5_becomes 4 (some .int) 0 [.ref (zA Z 6 0), .int x1, .int x2] (sR M0 0 σ) N (some (Value.int b.1), sR M0 0 (b.2), N) :=
  metG (fin := (finX5_becomes M0 N)) (by decide) (Nat.le_of_ble_eq_true rfl) (fun E _ C => bX5_becomes C σ x1 x2) hb
