theorem dX0_init_0 : decode cX0_init 0 = .ok (.aload_n 0, 1) := by decide +kernel
theorem dX0_init_1 : decode cX0_init 1 = .ok (.invokespecial 3, 3) := by decide +kernel
theorem dX0_init_4 : decode cX0_init 4 = .ok (.aload_n 0, 1) := by decide +kernel
theorem dX0_init_5 : decode cX0_init 5 = .ok (.iconst 3, 1) := by decide +kernel
theorem dX0_init_6 : decode cX0_init 6 = .ok (.newarray .int, 2) := by decide +kernel
theorem dX0_init_8 : decode cX0_init 8 = .ok (.dup, 1) := by decide +kernel
theorem dX0_init_9 : decode cX0_init 9 = .ok (.iconst 0, 1) := by decide +kernel
theorem dX0_init_10 : decode cX0_init 10 = .ok (.bipush 14, 2) := by decide +kernel
theorem dX0_init_12 : decode cX0_init 12 = .ok (.iastore, 1) := by decide +kernel
theorem dX0_init_13 : decode cX0_init 13 = .ok (.dup, 1) := by decide +kernel
theorem dX0_init_14 : decode cX0_init 14 = .ok (.iconst 1, 1) := by decide +kernel
theorem dX0_init_15 : decode cX0_init 15 = .ok (.iconst 3, 1) := by decide +kernel
theorem dX0_init_16 : decode cX0_init 16 = .ok (.iastore, 1) := by decide +kernel
theorem dX0_init_17 : decode cX0_init 17 = .ok (.dup, 1) := by decide +kernel
theorem dX0_init_18 : decode cX0_init 18 = .ok (.iconst 2, 1) := by decide +kernel
theorem dX0_init_19 : decode cX0_init 19 = .ok (.bipush 24, 2) := by decide +kernel
theorem dX0_init_21 : decode cX0_init 21 = .ok (.iastore, 1) := by decide +kernel
theorem dX0_init_22 : decode cX0_init 22 = .ok (.putfield 9, 3) := by decide +kernel
theorem dX0_init_25 : decode cX0_init 25 = .ok (.aload_n 0, 1) := by decide +kernel
theorem dX0_init_26 : decode cX0_init 26 = .ok (.bipush 8, 2) := by decide +kernel
theorem dX0_init_28 : decode cX0_init 28 = .ok (.newarray .int, 2) := by decide +kernel
theorem dX0_init_30 : decode cX0_init 30 = .ok (.putfield 15, 3) := by decide +kernel
theorem dX0_init_33 : decode cX0_init 33 = .ok (.aload_n 0, 1) := by decide +kernel
theorem dX0_init_34 : decode cX0_init 34 = .ok (.bipush 8, 2) := by decide +kernel
theorem dX0_init_36 : decode cX0_init 36 = .ok (.newarray .int, 2) := by decide +kernel
theorem dX0_init_38 : decode cX0_init 38 = .ok (.putfield 18, 3) := by decide +kernel
theorem dX0_init_41 : decode cX0_init 41 = .ok (.aload_n 0, 1) := by decide +kernel
theorem dX0_init_42 : decode cX0_init 42 = .ok (.bipush 8, 2) := by decide +kernel
theorem dX0_init_44 : decode cX0_init 44 = .ok (.newarray .int, 2) := by decide +kernel
theorem dX0_init_46 : decode cX0_init 46 = .ok (.putfield 21, 3) := by decide +kernel
theorem dX0_init_49 : decode cX0_init 49 = .ok (.aload_n 0, 1) := by decide +kernel
theorem dX0_init_50 : decode cX0_init 50 = .ok (.bipush 8, 2) := by decide +kernel
theorem dX0_init_52 : decode cX0_init 52 = .ok (.newarray .boolean, 2) := by decide +kernel
theorem dX0_init_54 : decode cX0_init 54 = .ok (.putfield 24, 3) := by decide +kernel
theorem dX0_init_57 : decode cX0_init 57 = .ok (.return_, 1) := by decide +kernel
def ctX0 (cy : Nat → ClassId) (n0 : Nat) : List va_E := [.inr (0, [.int 0, .int 0, .int 0, .int 0, .ref (n0 + 1), .ref (n0 + 2), .ref (n0 + 3), .ref (n0 + 4), .ref (n0 + 5)]), .inl (cy 0, 3, .inl (upd (upd (upd (fun _ => 0) 0 14) 1 3) 2 24)), .inl (cy 0, 8, .inl (fun _ => 0)), .inl (cy 0, 8, .inl (fun _ => 0)), .inl (cy 0, 8, .inl (fun _ => 0)), .inl (cy 2, 8, .inl (fun _ => 0))]
set_option maxRecDepth 20000 in
set_option maxHeartbeats 4000000 in
theorem mX0_init (D : va_G) (cy : Nat → ClassId) (l : Launch) (n0 : Nat) : CtA D cy l yX0_init cX0_init 1 1 5 35 n0 [.ref n0] [.inr (0, [.int 0, .int 0, .int 0, .int 0, .null, .null, .null, .null, .null])] (ctX0 cy n0) := by
  refine metA (by decide) rfl (Nat.le_of_ble_eq_true rfl) (fun E C hnm hr hlk => ?_)
  refine ga_aload_n C dX0_init_0 0 0 rfl rfl ?_
  refine ga_obj C (by decide) wd_106 wd_99 wd_100 (Nat.le_of_ble_eq_true rfl) dX0_init_1 ?_
  refine ga_aload_n C dX0_init_4 0 0 rfl rfl ?_
  refine ga_iconst (v := 3) C dX0_init_5 (by decide) ?_
  refine ga_newa (ty := .int) (N' := 3) (a := (n0 + 1)) (cs' := [.inr (0, [.int 0, .int 0, .int 0, .int 0, .null, .null, .null, .null, .null]), .inl (cy 0, 3, .inl (fun _ => 0))]) C rfl wd_147 (ga_ti C) (fun _ => rfl) (by decide) (by decide) (by decide) (by decide) (by decide) dX0_init_6 rfl rfl ?_
  refine ga_dup C dX0_init_8 rfl ?_
  refine ga_iconst (v := 0) C dX0_init_9 (by decide) ?_
  refine ga_bipush (v := 14) C dX0_init_10 (by decide) ?_
  refine ga_iast (cs' := [.inr (0, [.int 0, .int 0, .int 0, .int 0, .null, .null, .null, .null, .null]), .inl (cy 0, 3, .inl (upd (fun _ => 0) 0 14))]) C 1 rfl rfl (by decide) rfl dX0_init_12 ?_
  refine ga_dup C dX0_init_13 rfl ?_
  refine ga_iconst (v := 1) C dX0_init_14 (by decide) ?_
  refine ga_iconst (v := 3) C dX0_init_15 (by decide) ?_
  refine ga_iast (cs' := [.inr (0, [.int 0, .int 0, .int 0, .int 0, .null, .null, .null, .null, .null]), .inl (cy 0, 3, .inl (upd (upd (fun _ => 0) 0 14) 1 3))]) C 1 rfl rfl (by decide) rfl dX0_init_16 ?_
  refine ga_dup C dX0_init_17 rfl ?_
  refine ga_iconst (v := 2) C dX0_init_18 (by decide) ?_
  refine ga_bipush (v := 24) C dX0_init_19 (by decide) ?_
  refine ga_iast (cs' := [.inr (0, [.int 0, .int 0, .int 0, .int 0, .null, .null, .null, .null, .null]), .inl (cy 0, 3, .inl (upd (upd (upd (fun _ => 0) 0 14) 1 3) 2 24))]) C 1 rfl rfl (by decide) rfl dX0_init_21 ?_
  refine ga_putF (ty := tyX0 4) (cs' := [.inr (0, [.int 0, .int 0, .int 0, .int 0, .ref (n0 + 1), .null, .null, .null, .null]), .inl (cy 0, 3, .inl (upd (upd (upd (fun _ => 0) 0 14) 1 3) 2 24))]) C hnm us_X0 tyX0 tyX0_ok nmX0 (ci := 0) rfl 4 (by decide) wd_117 rfl rfl rfl rfl rfl 0 rfl rfl (Nat.le_of_ble_eq_true rfl) rfl dX0_init_22 ?_
  refine ga_aload_n C dX0_init_25 0 0 rfl rfl ?_
  refine ga_bipush (v := 8) C dX0_init_26 (by decide) ?_
  refine ga_newa (ty := .int) (N' := 8) (a := (n0 + 2)) (cs' := [.inr (0, [.int 0, .int 0, .int 0, .int 0, .ref (n0 + 1), .null, .null, .null, .null]), .inl (cy 0, 3, .inl (upd (upd (upd (fun _ => 0) 0 14) 1 3) 2 24)), .inl (cy 0, 8, .inl (fun _ => 0))]) C rfl wd_147 (ga_ti C) (fun _ => rfl) (by decide) (by decide) (by decide) (by decide) (by decide) dX0_init_28 rfl rfl ?_
  refine ga_putF (ty := tyX0 5) (cs' := [.inr (0, [.int 0, .int 0, .int 0, .int 0, .ref (n0 + 1), .ref (n0 + 2), .null, .null, .null]), .inl (cy 0, 3, .inl (upd (upd (upd (fun _ => 0) 0 14) 1 3) 2 24)), .inl (cy 0, 8, .inl (fun _ => 0))]) C hnm us_X0 tyX0 tyX0_ok nmX0 (ci := 0) rfl 5 (by decide) wd_120 rfl rfl rfl rfl rfl 0 rfl rfl (Nat.le_of_ble_eq_true rfl) rfl dX0_init_30 ?_
  refine ga_aload_n C dX0_init_33 0 0 rfl rfl ?_
  refine ga_bipush (v := 8) C dX0_init_34 (by decide) ?_
  refine ga_newa (ty := .int) (N' := 8) (a := (n0 + 3)) (cs' := [.inr (0, [.int 0, .int 0, .int 0, .int 0, .ref (n0 + 1), .ref (n0 + 2), .null, .null, .null]), .inl (cy 0, 3, .inl (upd (upd (upd (fun _ => 0) 0 14) 1 3) 2 24)), .inl (cy 0, 8, .inl (fun _ => 0)), .inl (cy 0, 8, .inl (fun _ => 0))]) C rfl wd_147 (ga_ti C) (fun _ => rfl) (by decide) (by decide) (by decide) (by decide) (by decide) dX0_init_36 rfl rfl ?_
  refine ga_putF (ty := tyX0 6) (cs' := [.inr (0, [.int 0, .int 0, .int 0, .int 0, .ref (n0 + 1), .ref (n0 + 2), .ref (n0 + 3), .null, .null]), .inl (cy 0, 3, .inl (upd (upd (upd (fun _ => 0) 0 14) 1 3) 2 24)), .inl (cy 0, 8, .inl (fun _ => 0)), .inl (cy 0, 8, .inl (fun _ => 0))]) C hnm us_X0 tyX0 tyX0_ok nmX0 (ci := 0) rfl 6 (by decide) wd_122 rfl rfl rfl rfl rfl 0 rfl rfl (Nat.le_of_ble_eq_true rfl) rfl dX0_init_38 ?_
  refine ga_aload_n C dX0_init_41 0 0 rfl rfl ?_
  refine ga_bipush (v := 8) C dX0_init_42 (by decide) ?_
  refine ga_newa (ty := .int) (N' := 8) (a := (n0 + 4)) (cs' := [.inr (0, [.int 0, .int 0, .int 0, .int 0, .ref (n0 + 1), .ref (n0 + 2), .ref (n0 + 3), .null, .null]), .inl (cy 0, 3, .inl (upd (upd (upd (fun _ => 0) 0 14) 1 3) 2 24)), .inl (cy 0, 8, .inl (fun _ => 0)), .inl (cy 0, 8, .inl (fun _ => 0)), .inl (cy 0, 8, .inl (fun _ => 0))]) C rfl wd_147 (ga_ti C) (fun _ => rfl) (by decide) (by decide) (by decide) (by decide) (by decide) dX0_init_44 rfl rfl ?_
  refine ga_putF (ty := tyX0 7) (cs' := [.inr (0, [.int 0, .int 0, .int 0, .int 0, .ref (n0 + 1), .ref (n0 + 2), .ref (n0 + 3), .ref (n0 + 4), .null]), .inl (cy 0, 3, .inl (upd (upd (upd (fun _ => 0) 0 14) 1 3) 2 24)), .inl (cy 0, 8, .inl (fun _ => 0)), .inl (cy 0, 8, .inl (fun _ => 0)), .inl (cy 0, 8, .inl (fun _ => 0))]) C hnm us_X0 tyX0 tyX0_ok nmX0 (ci := 0) rfl 7 (by decide) wd_124 rfl rfl rfl rfl rfl 0 rfl rfl (Nat.le_of_ble_eq_true rfl) rfl dX0_init_46 ?_
  refine ga_aload_n C dX0_init_49 0 0 rfl rfl ?_
  refine ga_bipush (v := 8) C dX0_init_50 (by decide) ?_
  refine ga_newa (ty := .boolean) (N' := 8) (a := (n0 + 5)) (cs' := [.inr (0, [.int 0, .int 0, .int 0, .int 0, .ref (n0 + 1), .ref (n0 + 2), .ref (n0 + 3), .ref (n0 + 4), .null]), .inl (cy 0, 3, .inl (upd (upd (upd (fun _ => 0) 0 14) 1 3) 2 24)), .inl (cy 0, 8, .inl (fun _ => 0)), .inl (cy 0, 8, .inl (fun _ => 0)), .inl (cy 0, 8, .inl (fun _ => 0)), .inl (cy 2, 8, .inl (fun _ => 0))]) C rfl wd_148 (ga_tz C) (fun _ => rfl) (by decide) (by decide) (by decide) (by decide) (by decide) dX0_init_52 rfl rfl ?_
  refine ga_putF (ty := tyX0 8) (cs' := [.inr (0, [.int 0, .int 0, .int 0, .int 0, .ref (n0 + 1), .ref (n0 + 2), .ref (n0 + 3), .ref (n0 + 4), .ref (n0 + 5)]), .inl (cy 0, 3, .inl (upd (upd (upd (fun _ => 0) 0 14) 1 3) 2 24)), .inl (cy 0, 8, .inl (fun _ => 0)), .inl (cy 0, 8, .inl (fun _ => 0)), .inl (cy 0, 8, .inl (fun _ => 0)), .inl (cy 2, 8, .inl (fun _ => 0))]) C hnm us_X0 tyX0 tyX0_ok nmX0 (ci := 0) rfl 8 (by decide) wd_126 rfl rfl rfl rfl rfl 0 rfl rfl (Nat.le_of_ble_eq_true rfl) rfl dX0_init_54 ?_
  exact ga_ret C hr hlk dX0_init_57
theorem dX2_init_0 : decode cX2_init 0 = .ok (.aload_n 0, 1) := by decide +kernel
theorem dX2_init_1 : decode cX2_init 1 = .ok (.invokespecial 3, 3) := by decide +kernel
theorem dX2_init_4 : decode cX2_init 4 = .ok (.aload_n 0, 1) := by decide +kernel
theorem dX2_init_5 : decode cX2_init 5 = .ok (.bipush 40, 2) := by decide +kernel
theorem dX2_init_7 : decode cX2_init 7 = .ok (.newarray .long, 2) := by decide +kernel
theorem dX2_init_9 : decode cX2_init 9 = .ok (.putfield 9, 3) := by decide +kernel
theorem dX2_init_12 : decode cX2_init 12 = .ok (.return_, 1) := by decide +kernel
def ctX2 (cy : Nat → ClassId) (n0 : Nat) : List va_E := [.inr (2, [.ref (n0 + 1), .int 0, .int 0]), .inl (cy 1, 40, .inr (.inl (fun _ => 0)))]
set_option maxRecDepth 20000 in
set_option maxHeartbeats 4000000 in
theorem mX2_init (D : va_G) (cy : Nat → ClassId) (l : Launch) (n0 : Nat) : CtA D cy l yX2_init cX2_init 1 1 1 40 n0 [.ref n0] [.inr (2, [.null, .int 0, .int 0])] (ctX2 cy n0) := by
  refine metA (by decide) rfl (Nat.le_of_ble_eq_true rfl) (fun E C hnm hr hlk => ?_)
  refine ga_aload_n C dX2_init_0 0 0 rfl rfl ?_
  refine ga_obj C (by decide) wd_207 wd_99 wd_100 (Nat.le_of_ble_eq_true rfl) dX2_init_1 ?_
  refine ga_aload_n C dX2_init_4 0 0 rfl rfl ?_
  refine ga_bipush (v := 40) C dX2_init_5 (by decide) ?_
  refine ga_newa (ty := .long) (N' := 40) (a := (n0 + 1)) (cs' := [.inr (2, [.null, .int 0, .int 0]), .inl (cy 1, 40, .inr (.inl (fun _ => 0)))]) C rfl wd_223 (ga_tl C) (fun _ => rfl) (by decide) (by decide) (by decide) (by decide) (by decide) dX2_init_7 rfl rfl ?_
  refine ga_putF (ty := tyX2 0) (cs' := [.inr (2, [.ref (n0 + 1), .int 0, .int 0]), .inl (cy 1, 40, .inr (.inl (fun _ => 0)))]) C hnm us_X2 tyX2 tyX2_ok nmX2 (ci := 2) rfl 0 (by decide) wd_208 rfl rfl rfl rfl rfl 0 rfl rfl (Nat.le_of_ble_eq_true rfl) rfl dX2_init_9 ?_
  exact ga_ret C hr hlk dX2_init_12
theorem dX3_init_0 : decode cX3_init 0 = .ok (.aload_n 0, 1) := by decide +kernel
theorem dX3_init_1 : decode cX3_init 1 = .ok (.invokespecial 3, 3) := by decide +kernel
theorem dX3_init_4 : decode cX3_init 4 = .ok (.aload_n 0, 1) := by decide +kernel
theorem dX3_init_5 : decode cX3_init 5 = .ok (.bipush 120, 2) := by decide +kernel
theorem dX3_init_7 : decode cX3_init 7 = .ok (.newarray .int, 2) := by decide +kernel
theorem dX3_init_9 : decode cX3_init 9 = .ok (.putfield 9, 3) := by decide +kernel
theorem dX3_init_12 : decode cX3_init 12 = .ok (.return_, 1) := by decide +kernel
def ctX3 (cy : Nat → ClassId) (n0 : Nat) : List va_E := [.inr (3, [.ref (n0 + 1), .int 0, .int 0, .int 0, .int 0, .int 0, .int 0]), .inl (cy 0, 120, .inl (fun _ => 0))]
set_option maxRecDepth 20000 in
set_option maxHeartbeats 4000000 in
theorem mX3_init (D : va_G) (cy : Nat → ClassId) (l : Launch) (n0 : Nat) : CtA D cy l yX3_init cX3_init 1 1 1 120 n0 [.ref n0] [.inr (3, [.null, .int 0, .int 0, .int 0, .int 0, .int 0, .int 0])] (ctX3 cy n0) := by
  refine metA (by decide) rfl (Nat.le_of_ble_eq_true rfl) (fun E C hnm hr hlk => ?_)
  refine ga_aload_n C dX3_init_0 0 0 rfl rfl ?_
  refine ga_obj C (by decide) wd_177 wd_99 wd_100 (Nat.le_of_ble_eq_true rfl) dX3_init_1 ?_
  refine ga_aload_n C dX3_init_4 0 0 rfl rfl ?_
  refine ga_bipush (v := 120) C dX3_init_5 (by decide) ?_
  refine ga_newa (ty := .int) (N' := 120) (a := (n0 + 1)) (cs' := [.inr (3, [.null, .int 0, .int 0, .int 0, .int 0, .int 0, .int 0]), .inl (cy 0, 120, .inl (fun _ => 0))]) C rfl wd_147 (ga_ti C) (fun _ => rfl) (by decide) (by decide) (by decide) (by decide) (by decide) dX3_init_7 rfl rfl ?_
  refine ga_putF (ty := tyX3 0) (cs' := [.inr (3, [.ref (n0 + 1), .int 0, .int 0, .int 0, .int 0, .int 0, .int 0]), .inl (cy 0, 120, .inl (fun _ => 0))]) C hnm us_X3 tyX3 tyX3_ok nmX3 (ci := 3) rfl 0 (by decide) wd_178 rfl rfl rfl rfl rfl 0 rfl rfl (Nat.le_of_ble_eq_true rfl) rfl dX3_init_9 ?_
  exact ga_ret C hr hlk dX3_init_12
theorem dX1_init_0 : decode cX1_init 0 = .ok (.aload_n 0, 1) := by decide +kernel
theorem dX1_init_1 : decode cX1_init 1 = .ok (.invokespecial 3, 3) := by decide +kernel
theorem dX1_init_4 : decode cX1_init 4 = .ok (.aload_n 0, 1) := by decide +kernel
theorem dX1_init_5 : decode cX1_init 5 = .ok (.new 9, 3) := by decide +kernel
theorem dX1_init_8 : decode cX1_init 8 = .ok (.dup, 1) := by decide +kernel
theorem dX1_init_9 : decode cX1_init 9 = .ok (.invokespecial 11, 3) := by decide +kernel
theorem dX1_init_12 : decode cX1_init 12 = .ok (.putfield 12, 3) := by decide +kernel
theorem dX1_init_15 : decode cX1_init 15 = .ok (.return_, 1) := by decide +kernel
def ctX1 (cy : Nat → ClassId) (n0 : Nat) : List va_E := [.inr (1, [.ref (n0 + 1), .int 0, .int 0, .int 0]), .inr (0, [.int 0, .int 0, .int 0, .int 0, .ref (n0 + 2), .ref (n0 + 3), .ref (n0 + 4), .ref (n0 + 5), .ref (n0 + 6)]), .inl (cy 0, 3, .inl (upd (upd (upd (fun _ => 0) 0 14) 1 3) 2 24)), .inl (cy 0, 8, .inl (fun _ => 0)), .inl (cy 0, 8, .inl (fun _ => 0)), .inl (cy 0, 8, .inl (fun _ => 0)), .inl (cy 2, 8, .inl (fun _ => 0))]
set_option maxRecDepth 20000 in
set_option maxHeartbeats 4000000 in
theorem mX1_init (D : va_G) (cy : Nat → ClassId) (l : Launch) (n0 : Nat) : CtA D cy l yX1_init cX1_init 1 2 6 44 n0 [.ref n0] [.inr (1, [.null, .int 0, .int 0, .int 0])] (ctX1 cy n0) := by
  refine metA (by decide) rfl (Nat.le_of_ble_eq_true rfl) (fun E C hnm hr hlk => ?_)
  refine ga_aload_n C dX1_init_0 0 0 rfl rfl ?_
  refine ga_obj C (by decide) wd_154 wd_99 wd_100 (Nat.le_of_ble_eq_true rfl) dX1_init_1 ?_
  refine ga_aload_n C dX1_init_4 0 0 rfl rfl ?_
  refine ga_new (ci := 0) (fs := [.int 0, .int 0, .int 0, .int 0, .null, .null, .null, .null, .null]) (a := (n0 + 1)) (cs' := [.inr (1, [.null, .int 0, .int 0, .int 0]), .inr (0, [.int 0, .int 0, .int 0, .int 0, .null, .null, .null, .null, .null])]) C us_X0 tyX0 tyX0_ok wd_155 wd_102 wd_81 rfl (by decide +kernel) (by decide) (by decide) dX1_init_5 rfl rfl ?_
  refine ga_dup C dX1_init_8 rfl ?_
  refine ga_callIN (cs := [.inr (1, [.null, .int 0, .int 0, .int 0])]) (cs1 := [.inr (1, [.null, .int 0, .int 0, .int 0]), .inr (0, [.int 0, .int 0, .int 0, .int 0, .ref (n0 + 2), .ref (n0 + 3), .ref (n0 + 4), .ref (n0 + 5), .ref (n0 + 6)]), .inl (cy 0, 3, .inl (upd (upd (upd (fun _ => 0) 0 14) 1 3) 2 24)), .inl (cy 0, 8, .inl (fun _ => 0)), .inl (cy 0, 8, .inl (fun _ => 0)), .inl (cy 0, 8, .inl (fun _ => 0)), .inl (cy 2, 8, .inl (fun _ => 0))]) C (mX0_init D cy (eL E) (n0 + 1)) 5 rfl wd_105 wd_81 wd_104 ⟨rfl, by decide, by decide, by decide +kernel⟩ (by decide) (by decide) (Nat.le_of_ble_eq_true rfl) dX1_init_9 (by decide) (by decide) rfl rfl ?_
  refine ga_putF (ty := tyX1 0) (cs' := [.inr (1, [.ref (n0 + 1), .int 0, .int 0, .int 0]), .inr (0, [.int 0, .int 0, .int 0, .int 0, .ref (n0 + 2), .ref (n0 + 3), .ref (n0 + 4), .ref (n0 + 5), .ref (n0 + 6)]), .inl (cy 0, 3, .inl (upd (upd (upd (fun _ => 0) 0 14) 1 3) 2 24)), .inl (cy 0, 8, .inl (fun _ => 0)), .inl (cy 0, 8, .inl (fun _ => 0)), .inl (cy 0, 8, .inl (fun _ => 0)), .inl (cy 2, 8, .inl (fun _ => 0))]) C hnm us_X1 tyX1 tyX1_ok nmX1 (ci := 1) rfl 0 (by decide) wd_157 rfl rfl rfl rfl rfl 0 rfl rfl (Nat.le_of_ble_eq_true rfl) rfl dX1_init_12 ?_
  exact ga_ret C hr hlk dX1_init_15
theorem dX5_init_0 : decode cX5_init 0 = .ok (.aload_n 0, 1) := by decide +kernel
theorem dX5_init_1 : decode cX5_init 1 = .ok (.invokespecial 1, 3) := by decide +kernel
theorem dX5_init_4 : decode cX5_init 4 = .ok (.aload_n 0, 1) := by decide +kernel
theorem dX5_init_5 : decode cX5_init 5 = .ok (.bipush 39, 2) := by decide +kernel
theorem dX5_init_7 : decode cX5_init 7 = .ok (.newarray .int, 2) := by decide +kernel
theorem dX5_init_9 : decode cX5_init 9 = .ok (.putfield 7, 3) := by decide +kernel
theorem dX5_init_12 : decode cX5_init 12 = .ok (.aload_n 0, 1) := by decide +kernel
theorem dX5_init_13 : decode cX5_init 13 = .ok (.bipush 39, 2) := by decide +kernel
theorem dX5_init_15 : decode cX5_init 15 = .ok (.newarray .int, 2) := by decide +kernel
theorem dX5_init_17 : decode cX5_init 17 = .ok (.putfield 13, 3) := by decide +kernel
theorem dX5_init_20 : decode cX5_init 20 = .ok (.aload_n 0, 1) := by decide +kernel
theorem dX5_init_21 : decode cX5_init 21 = .ok (.bipush 39, 2) := by decide +kernel
theorem dX5_init_23 : decode cX5_init 23 = .ok (.newarray .int, 2) := by decide +kernel
theorem dX5_init_25 : decode cX5_init 25 = .ok (.putfield 16, 3) := by decide +kernel
theorem dX5_init_28 : decode cX5_init 28 = .ok (.aload_n 0, 1) := by decide +kernel
theorem dX5_init_29 : decode cX5_init 29 = .ok (.bipush 39, 2) := by decide +kernel
theorem dX5_init_31 : decode cX5_init 31 = .ok (.newarray .int, 2) := by decide +kernel
theorem dX5_init_33 : decode cX5_init 33 = .ok (.putfield 19, 3) := by decide +kernel
theorem dX5_init_36 : decode cX5_init 36 = .ok (.aload_n 0, 1) := by decide +kernel
theorem dX5_init_37 : decode cX5_init 37 = .ok (.bipush 7, 2) := by decide +kernel
theorem dX5_init_39 : decode cX5_init 39 = .ok (.newarray .int, 2) := by decide +kernel
theorem dX5_init_41 : decode cX5_init 41 = .ok (.putfield 22, 3) := by decide +kernel
theorem dX5_init_44 : decode cX5_init 44 = .ok (.aload_n 0, 1) := by decide +kernel
theorem dX5_init_45 : decode cX5_init 45 = .ok (.bipush 120, 2) := by decide +kernel
theorem dX5_init_47 : decode cX5_init 47 = .ok (.newarray .int, 2) := by decide +kernel
theorem dX5_init_49 : decode cX5_init 49 = .ok (.putfield 25, 3) := by decide +kernel
theorem dX5_init_52 : decode cX5_init 52 = .ok (.aload_n 0, 1) := by decide +kernel
theorem dX5_init_53 : decode cX5_init 53 = .ok (.iconst 4, 1) := by decide +kernel
theorem dX5_init_54 : decode cX5_init 54 = .ok (.newarray .int, 2) := by decide +kernel
theorem dX5_init_56 : decode cX5_init 56 = .ok (.putfield 28, 3) := by decide +kernel
theorem dX5_init_59 : decode cX5_init 59 = .ok (.aload_n 0, 1) := by decide +kernel
theorem dX5_init_60 : decode cX5_init 60 = .ok (.iconst 4, 1) := by decide +kernel
theorem dX5_init_61 : decode cX5_init 61 = .ok (.newarray .int, 2) := by decide +kernel
theorem dX5_init_63 : decode cX5_init 63 = .ok (.putfield 31, 3) := by decide +kernel
theorem dX5_init_66 : decode cX5_init 66 = .ok (.aload_n 0, 1) := by decide +kernel
theorem dX5_init_67 : decode cX5_init 67 = .ok (.sipush 160, 3) := by decide +kernel
theorem dX5_init_70 : decode cX5_init 70 = .ok (.newarray .long, 2) := by decide +kernel
theorem dX5_init_72 : decode cX5_init 72 = .ok (.putfield 34, 3) := by decide +kernel
theorem dX5_init_75 : decode cX5_init 75 = .ok (.aload_n 0, 1) := by decide +kernel
theorem dX5_init_76 : decode cX5_init 76 = .ok (.bipush 40, 2) := by decide +kernel
theorem dX5_init_78 : decode cX5_init 78 = .ok (.newarray .long, 2) := by decide +kernel
theorem dX5_init_80 : decode cX5_init 80 = .ok (.putfield 38, 3) := by decide +kernel
theorem dX5_init_83 : decode cX5_init 83 = .ok (.aload_n 0, 1) := by decide +kernel
theorem dX5_init_84 : decode cX5_init 84 = .ok (.getfield 7, 3) := by decide +kernel
theorem dX5_init_87 : decode cX5_init 87 = .ok (.iconst 3, 1) := by decide +kernel
theorem dX5_init_88 : decode cX5_init 88 = .ok (.bipush 14, 2) := by decide +kernel
theorem dX5_init_90 : decode cX5_init 90 = .ok (.iastore, 1) := by decide +kernel
theorem dX5_init_91 : decode cX5_init 91 = .ok (.aload_n 0, 1) := by decide +kernel
theorem dX5_init_92 : decode cX5_init 92 = .ok (.getfield 7, 3) := by decide +kernel
theorem dX5_init_95 : decode cX5_init 95 = .ok (.iconst 4, 1) := by decide +kernel
theorem dX5_init_96 : decode cX5_init 96 = .ok (.iconst 3, 1) := by decide +kernel
theorem dX5_init_97 : decode cX5_init 97 = .ok (.iastore, 1) := by decide +kernel
theorem dX5_init_98 : decode cX5_init 98 = .ok (.aload_n 0, 1) := by decide +kernel
theorem dX5_init_99 : decode cX5_init 99 = .ok (.getfield 7, 3) := by decide +kernel
theorem dX5_init_102 : decode cX5_init 102 = .ok (.iconst 5, 1) := by decide +kernel
theorem dX5_init_103 : decode cX5_init 103 = .ok (.bipush 24, 2) := by decide +kernel
theorem dX5_init_105 : decode cX5_init 105 = .ok (.iastore, 1) := by decide +kernel
theorem dX5_init_106 : decode cX5_init 106 = .ok (.return_, 1) := by decide +kernel
def ctX5 (cy : Nat → ClassId) (n0 : Nat) : List va_E := [.inr (5, [.ref (n0 + 1), .ref (n0 + 2), .ref (n0 + 3), .ref (n0 + 4), .ref (n0 + 5), .int 0, .int 0, .ref (n0 + 6), .int 0, .int 0, .int 0, .int 0, .int 0, .ref (n0 + 7), .ref (n0 + 8), .ref (n0 + 9), .ref (n0 + 10)]), .inl (cy 0, 39, .inl (upd (upd (upd (fun _ => 0) 3 14) 4 3) 5 24)), .inl (cy 0, 39, .inl (fun _ => 0)), .inl (cy 0, 39, .inl (fun _ => 0)), .inl (cy 0, 39, .inl (fun _ => 0)), .inl (cy 0, 7, .inl (fun _ => 0)), .inl (cy 0, 120, .inl (fun _ => 0)), .inl (cy 0, 4, .inl (fun _ => 0)), .inl (cy 0, 4, .inl (fun _ => 0)), .inl (cy 1, 160, .inr (.inl (fun _ => 0))), .inl (cy 1, 40, .inr (.inl (fun _ => 0)))]
set_option maxRecDepth 20000 in
set_option maxHeartbeats 4000000 in
theorem mX5_init (D : va_G) (cy : Nat → ClassId) (l : Launch) (n0 : Nat) : CtA D cy l yX5_init cX5_init 1 1 10 491 n0 [.ref n0] [.inr (5, [.null, .null, .null, .null, .null, .int 0, .int 0, .null, .int 0, .int 0, .int 0, .int 0, .int 0, .null, .null, .null, .null])] (ctX5 cy n0) := by
  refine metA (by decide) rfl (Nat.le_of_ble_eq_true rfl) (fun E C hnm hr hlk => ?_)
  refine ga_aload_n C dX5_init_0 0 0 rfl rfl ?_
  refine ga_obj C (by decide) wd_795 wd_99 wd_100 (Nat.le_of_ble_eq_true rfl) dX5_init_1 ?_
  refine ga_aload_n C dX5_init_4 0 0 rfl rfl ?_
  refine ga_bipush (v := 39) C dX5_init_5 (by decide) ?_
  refine ga_newa (ty := .int) (N' := 39) (a := (n0 + 1)) (cs' := [.inr (5, [.null, .null, .null, .null, .null, .int 0, .int 0, .null, .int 0, .int 0, .int 0, .int 0, .int 0, .null, .null, .null, .null]), .inl (cy 0, 39, .inl (fun _ => 0))]) C rfl wd_147 (ga_ti C) (fun _ => rfl) (by decide) (by decide) (by decide) (by decide) (by decide) dX5_init_7 rfl rfl ?_
  refine ga_putF (ty := tyX5 0) (cs' := [.inr (5, [.ref (n0 + 1), .null, .null, .null, .null, .int 0, .int 0, .null, .int 0, .int 0, .int 0, .int 0, .int 0, .null, .null, .null, .null]), .inl (cy 0, 39, .inl (fun _ => 0))]) C hnm us_X5 tyX5 tyX5_ok nmX5 (ci := 5) rfl 0 (by decide) wd_796 rfl rfl rfl rfl rfl 0 rfl rfl (Nat.le_of_ble_eq_true rfl) rfl dX5_init_9 ?_
  refine ga_aload_n C dX5_init_12 0 0 rfl rfl ?_
  refine ga_bipush (v := 39) C dX5_init_13 (by decide) ?_
  refine ga_newa (ty := .int) (N' := 39) (a := (n0 + 2)) (cs' := [.inr (5, [.ref (n0 + 1), .null, .null, .null, .null, .int 0, .int 0, .null, .int 0, .int 0, .int 0, .int 0, .int 0, .null, .null, .null, .null]), .inl (cy 0, 39, .inl (fun _ => 0)), .inl (cy 0, 39, .inl (fun _ => 0))]) C rfl wd_147 (ga_ti C) (fun _ => rfl) (by decide) (by decide) (by decide) (by decide) (by decide) dX5_init_15 rfl rfl ?_
  refine ga_putF (ty := tyX5 1) (cs' := [.inr (5, [.ref (n0 + 1), .ref (n0 + 2), .null, .null, .null, .int 0, .int 0, .null, .int 0, .int 0, .int 0, .int 0, .int 0, .null, .null, .null, .null]), .inl (cy 0, 39, .inl (fun _ => 0)), .inl (cy 0, 39, .inl (fun _ => 0))]) C hnm us_X5 tyX5 tyX5_ok nmX5 (ci := 5) rfl 1 (by decide) wd_797 rfl rfl rfl rfl rfl 0 rfl rfl (Nat.le_of_ble_eq_true rfl) rfl dX5_init_17 ?_
  refine ga_aload_n C dX5_init_20 0 0 rfl rfl ?_
  refine ga_bipush (v := 39) C dX5_init_21 (by decide) ?_
  refine ga_newa (ty := .int) (N' := 39) (a := (n0 + 3)) (cs' := [.inr (5, [.ref (n0 + 1), .ref (n0 + 2), .null, .null, .null, .int 0, .int 0, .null, .int 0, .int 0, .int 0, .int 0, .int 0, .null, .null, .null, .null]), .inl (cy 0, 39, .inl (fun _ => 0)), .inl (cy 0, 39, .inl (fun _ => 0)), .inl (cy 0, 39, .inl (fun _ => 0))]) C rfl wd_147 (ga_ti C) (fun _ => rfl) (by decide) (by decide) (by decide) (by decide) (by decide) dX5_init_23 rfl rfl ?_
  refine ga_putF (ty := tyX5 2) (cs' := [.inr (5, [.ref (n0 + 1), .ref (n0 + 2), .ref (n0 + 3), .null, .null, .int 0, .int 0, .null, .int 0, .int 0, .int 0, .int 0, .int 0, .null, .null, .null, .null]), .inl (cy 0, 39, .inl (fun _ => 0)), .inl (cy 0, 39, .inl (fun _ => 0)), .inl (cy 0, 39, .inl (fun _ => 0))]) C hnm us_X5 tyX5 tyX5_ok nmX5 (ci := 5) rfl 2 (by decide) wd_798 rfl rfl rfl rfl rfl 0 rfl rfl (Nat.le_of_ble_eq_true rfl) rfl dX5_init_25 ?_
  refine ga_aload_n C dX5_init_28 0 0 rfl rfl ?_
  refine ga_bipush (v := 39) C dX5_init_29 (by decide) ?_
  refine ga_newa (ty := .int) (N' := 39) (a := (n0 + 4)) (cs' := [.inr (5, [.ref (n0 + 1), .ref (n0 + 2), .ref (n0 + 3), .null, .null, .int 0, .int 0, .null, .int 0, .int 0, .int 0, .int 0, .int 0, .null, .null, .null, .null]), .inl (cy 0, 39, .inl (fun _ => 0)), .inl (cy 0, 39, .inl (fun _ => 0)), .inl (cy 0, 39, .inl (fun _ => 0)), .inl (cy 0, 39, .inl (fun _ => 0))]) C rfl wd_147 (ga_ti C) (fun _ => rfl) (by decide) (by decide) (by decide) (by decide) (by decide) dX5_init_31 rfl rfl ?_
  refine ga_putF (ty := tyX5 3) (cs' := [.inr (5, [.ref (n0 + 1), .ref (n0 + 2), .ref (n0 + 3), .ref (n0 + 4), .null, .int 0, .int 0, .null, .int 0, .int 0, .int 0, .int 0, .int 0, .null, .null, .null, .null]), .inl (cy 0, 39, .inl (fun _ => 0)), .inl (cy 0, 39, .inl (fun _ => 0)), .inl (cy 0, 39, .inl (fun _ => 0)), .inl (cy 0, 39, .inl (fun _ => 0))]) C hnm us_X5 tyX5 tyX5_ok nmX5 (ci := 5) rfl 3 (by decide) wd_799 rfl rfl rfl rfl rfl 0 rfl rfl (Nat.le_of_ble_eq_true rfl) rfl dX5_init_33 ?_
  refine ga_aload_n C dX5_init_36 0 0 rfl rfl ?_
  refine ga_bipush (v := 7) C dX5_init_37 (by decide) ?_
  refine ga_newa (ty := .int) (N' := 7) (a := (n0 + 5)) (cs' := [.inr (5, [.ref (n0 + 1), .ref (n0 + 2), .ref (n0 + 3), .ref (n0 + 4), .null, .int 0, .int 0, .null, .int 0, .int 0, .int 0, .int 0, .int 0, .null, .null, .null, .null]), .inl (cy 0, 39, .inl (fun _ => 0)), .inl (cy 0, 39, .inl (fun _ => 0)), .inl (cy 0, 39, .inl (fun _ => 0)), .inl (cy 0, 39, .inl (fun _ => 0)), .inl (cy 0, 7, .inl (fun _ => 0))]) C rfl wd_147 (ga_ti C) (fun _ => rfl) (by decide) (by decide) (by decide) (by decide) (by decide) dX5_init_39 rfl rfl ?_
  refine ga_putF (ty := tyX5 4) (cs' := [.inr (5, [.ref (n0 + 1), .ref (n0 + 2), .ref (n0 + 3), .ref (n0 + 4), .ref (n0 + 5), .int 0, .int 0, .null, .int 0, .int 0, .int 0, .int 0, .int 0, .null, .null, .null, .null]), .inl (cy 0, 39, .inl (fun _ => 0)), .inl (cy 0, 39, .inl (fun _ => 0)), .inl (cy 0, 39, .inl (fun _ => 0)), .inl (cy 0, 39, .inl (fun _ => 0)), .inl (cy 0, 7, .inl (fun _ => 0))]) C hnm us_X5 tyX5 tyX5_ok nmX5 (ci := 5) rfl 4 (by decide) wd_800 rfl rfl rfl rfl rfl 0 rfl rfl (Nat.le_of_ble_eq_true rfl) rfl dX5_init_41 ?_
  refine ga_aload_n C dX5_init_44 0 0 rfl rfl ?_
  refine ga_bipush (v := 120) C dX5_init_45 (by decide) ?_
  refine ga_newa (ty := .int) (N' := 120) (a := (n0 + 6)) (cs' := [.inr (5, [.ref (n0 + 1), .ref (n0 + 2), .ref (n0 + 3), .ref (n0 + 4), .ref (n0 + 5), .int 0, .int 0, .null, .int 0, .int 0, .int 0, .int 0, .int 0, .null, .null, .null, .null]), .inl (cy 0, 39, .inl (fun _ => 0)), .inl (cy 0, 39, .inl (fun _ => 0)), .inl (cy 0, 39, .inl (fun _ => 0)), .inl (cy 0, 39, .inl (fun _ => 0)), .inl (cy 0, 7, .inl (fun _ => 0)), .inl (cy 0, 120, .inl (fun _ => 0))]) C rfl wd_147 (ga_ti C) (fun _ => rfl) (by decide) (by decide) (by decide) (by decide) (by decide) dX5_init_47 rfl rfl ?_
  refine ga_putF (ty := tyX5 7) (cs' := [.inr (5, [.ref (n0 + 1), .ref (n0 + 2), .ref (n0 + 3), .ref (n0 + 4), .ref (n0 + 5), .int 0, .int 0, .ref (n0 + 6), .int 0, .int 0, .int 0, .int 0, .int 0, .null, .null, .null, .null]), .inl (cy 0, 39, .inl (fun _ => 0)), .inl (cy 0, 39, .inl (fun _ => 0)), .inl (cy 0, 39, .inl (fun _ => 0)), .inl (cy 0, 39, .inl (fun _ => 0)), .inl (cy 0, 7, .inl (fun _ => 0)), .inl (cy 0, 120, .inl (fun _ => 0))]) C hnm us_X5 tyX5 tyX5_ok nmX5 (ci := 5) rfl 7 (by decide) wd_803 rfl rfl rfl rfl rfl 0 rfl rfl (Nat.le_of_ble_eq_true rfl) rfl dX5_init_49 ?_
  refine ga_aload_n C dX5_init_52 0 0 rfl rfl ?_
  refine ga_iconst (v := 4) C dX5_init_53 (by decide) ?_
  refine ga_newa (ty := .int) (N' := 4) (a := (n0 + 7)) (cs' := [.inr (5, [.ref (n0 + 1), .ref (n0 + 2), .ref (n0 + 3), .ref (n0 + 4), .ref (n0 + 5), .int 0, .int 0, .ref (n0 + 6), .int 0, .int 0, .int 0, .int 0, .int 0, .null, .null, .null, .null]), .inl (cy 0, 39, .inl (fun _ => 0)), .inl (cy 0, 39, .inl (fun _ => 0)), .inl (cy 0, 39, .inl (fun _ => 0)), .inl (cy 0, 39, .inl (fun _ => 0)), .inl (cy 0, 7, .inl (fun _ => 0)), .inl (cy 0, 120, .inl (fun _ => 0)), .inl (cy 0, 4, .inl (fun _ => 0))]) C rfl wd_147 (ga_ti C) (fun _ => rfl) (by decide) (by decide) (by decide) (by decide) (by decide) dX5_init_54 rfl rfl ?_
  refine ga_putF (ty := tyX5 13) (cs' := [.inr (5, [.ref (n0 + 1), .ref (n0 + 2), .ref (n0 + 3), .ref (n0 + 4), .ref (n0 + 5), .int 0, .int 0, .ref (n0 + 6), .int 0, .int 0, .int 0, .int 0, .int 0, .ref (n0 + 7), .null, .null, .null]), .inl (cy 0, 39, .inl (fun _ => 0)), .inl (cy 0, 39, .inl (fun _ => 0)), .inl (cy 0, 39, .inl (fun _ => 0)), .inl (cy 0, 39, .inl (fun _ => 0)), .inl (cy 0, 7, .inl (fun _ => 0)), .inl (cy 0, 120, .inl (fun _ => 0)), .inl (cy 0, 4, .inl (fun _ => 0))]) C hnm us_X5 tyX5 tyX5_ok nmX5 (ci := 5) rfl 13 (by decide) wd_809 rfl rfl rfl rfl rfl 0 rfl rfl (Nat.le_of_ble_eq_true rfl) rfl dX5_init_56 ?_
  refine ga_aload_n C dX5_init_59 0 0 rfl rfl ?_
  refine ga_iconst (v := 4) C dX5_init_60 (by decide) ?_
  refine ga_newa (ty := .int) (N' := 4) (a := (n0 + 8)) (cs' := [.inr (5, [.ref (n0 + 1), .ref (n0 + 2), .ref (n0 + 3), .ref (n0 + 4), .ref (n0 + 5), .int 0, .int 0, .ref (n0 + 6), .int 0, .int 0, .int 0, .int 0, .int 0, .ref (n0 + 7), .null, .null, .null]), .inl (cy 0, 39, .inl (fun _ => 0)), .inl (cy 0, 39, .inl (fun _ => 0)), .inl (cy 0, 39, .inl (fun _ => 0)), .inl (cy 0, 39, .inl (fun _ => 0)), .inl (cy 0, 7, .inl (fun _ => 0)), .inl (cy 0, 120, .inl (fun _ => 0)), .inl (cy 0, 4, .inl (fun _ => 0)), .inl (cy 0, 4, .inl (fun _ => 0))]) C rfl wd_147 (ga_ti C) (fun _ => rfl) (by decide) (by decide) (by decide) (by decide) (by decide) dX5_init_61 rfl rfl ?_
  refine ga_putF (ty := tyX5 14) (cs' := [.inr (5, [.ref (n0 + 1), .ref (n0 + 2), .ref (n0 + 3), .ref (n0 + 4), .ref (n0 + 5), .int 0, .int 0, .ref (n0 + 6), .int 0, .int 0, .int 0, .int 0, .int 0, .ref (n0 + 7), .ref (n0 + 8), .null, .null]), .inl (cy 0, 39, .inl (fun _ => 0)), .inl (cy 0, 39, .inl (fun _ => 0)), .inl (cy 0, 39, .inl (fun _ => 0)), .inl (cy 0, 39, .inl (fun _ => 0)), .inl (cy 0, 7, .inl (fun _ => 0)), .inl (cy 0, 120, .inl (fun _ => 0)), .inl (cy 0, 4, .inl (fun _ => 0)), .inl (cy 0, 4, .inl (fun _ => 0))]) C hnm us_X5 tyX5 tyX5_ok nmX5 (ci := 5) rfl 14 (by decide) wd_810 rfl rfl rfl rfl rfl 0 rfl rfl (Nat.le_of_ble_eq_true rfl) rfl dX5_init_63 ?_
  refine ga_aload_n C dX5_init_66 0 0 rfl rfl ?_
  refine ga_sipush (v := 160) C dX5_init_67 (by decide) ?_
  refine ga_newa (ty := .long) (N' := 160) (a := (n0 + 9)) (cs' := [.inr (5, [.ref (n0 + 1), .ref (n0 + 2), .ref (n0 + 3), .ref (n0 + 4), .ref (n0 + 5), .int 0, .int 0, .ref (n0 + 6), .int 0, .int 0, .int 0, .int 0, .int 0, .ref (n0 + 7), .ref (n0 + 8), .null, .null]), .inl (cy 0, 39, .inl (fun _ => 0)), .inl (cy 0, 39, .inl (fun _ => 0)), .inl (cy 0, 39, .inl (fun _ => 0)), .inl (cy 0, 39, .inl (fun _ => 0)), .inl (cy 0, 7, .inl (fun _ => 0)), .inl (cy 0, 120, .inl (fun _ => 0)), .inl (cy 0, 4, .inl (fun _ => 0)), .inl (cy 0, 4, .inl (fun _ => 0)), .inl (cy 1, 160, .inr (.inl (fun _ => 0)))]) C rfl wd_223 (ga_tl C) (fun _ => rfl) (by decide) (by decide) (by decide) (by decide) (by decide) dX5_init_70 rfl rfl ?_
  refine ga_putF (ty := tyX5 15) (cs' := [.inr (5, [.ref (n0 + 1), .ref (n0 + 2), .ref (n0 + 3), .ref (n0 + 4), .ref (n0 + 5), .int 0, .int 0, .ref (n0 + 6), .int 0, .int 0, .int 0, .int 0, .int 0, .ref (n0 + 7), .ref (n0 + 8), .ref (n0 + 9), .null]), .inl (cy 0, 39, .inl (fun _ => 0)), .inl (cy 0, 39, .inl (fun _ => 0)), .inl (cy 0, 39, .inl (fun _ => 0)), .inl (cy 0, 39, .inl (fun _ => 0)), .inl (cy 0, 7, .inl (fun _ => 0)), .inl (cy 0, 120, .inl (fun _ => 0)), .inl (cy 0, 4, .inl (fun _ => 0)), .inl (cy 0, 4, .inl (fun _ => 0)), .inl (cy 1, 160, .inr (.inl (fun _ => 0)))]) C hnm us_X5 tyX5 tyX5_ok nmX5 (ci := 5) rfl 15 (by decide) wd_811 rfl rfl rfl rfl rfl 0 rfl rfl (Nat.le_of_ble_eq_true rfl) rfl dX5_init_72 ?_
  refine ga_aload_n C dX5_init_75 0 0 rfl rfl ?_
  refine ga_bipush (v := 40) C dX5_init_76 (by decide) ?_
  refine ga_newa (ty := .long) (N' := 40) (a := (n0 + 10)) (cs' := [.inr (5, [.ref (n0 + 1), .ref (n0 + 2), .ref (n0 + 3), .ref (n0 + 4), .ref (n0 + 5), .int 0, .int 0, .ref (n0 + 6), .int 0, .int 0, .int 0, .int 0, .int 0, .ref (n0 + 7), .ref (n0 + 8), .ref (n0 + 9), .null]), .inl (cy 0, 39, .inl (fun _ => 0)), .inl (cy 0, 39, .inl (fun _ => 0)), .inl (cy 0, 39, .inl (fun _ => 0)), .inl (cy 0, 39, .inl (fun _ => 0)), .inl (cy 0, 7, .inl (fun _ => 0)), .inl (cy 0, 120, .inl (fun _ => 0)), .inl (cy 0, 4, .inl (fun _ => 0)), .inl (cy 0, 4, .inl (fun _ => 0)), .inl (cy 1, 160, .inr (.inl (fun _ => 0))), .inl (cy 1, 40, .inr (.inl (fun _ => 0)))]) C rfl wd_223 (ga_tl C) (fun _ => rfl) (by decide) (by decide) (by decide) (by decide) (by decide) dX5_init_78 rfl rfl ?_
  refine ga_putF (ty := tyX5 16) (cs' := [.inr (5, [.ref (n0 + 1), .ref (n0 + 2), .ref (n0 + 3), .ref (n0 + 4), .ref (n0 + 5), .int 0, .int 0, .ref (n0 + 6), .int 0, .int 0, .int 0, .int 0, .int 0, .ref (n0 + 7), .ref (n0 + 8), .ref (n0 + 9), .ref (n0 + 10)]), .inl (cy 0, 39, .inl (fun _ => 0)), .inl (cy 0, 39, .inl (fun _ => 0)), .inl (cy 0, 39, .inl (fun _ => 0)), .inl (cy 0, 39, .inl (fun _ => 0)), .inl (cy 0, 7, .inl (fun _ => 0)), .inl (cy 0, 120, .inl (fun _ => 0)), .inl (cy 0, 4, .inl (fun _ => 0)), .inl (cy 0, 4, .inl (fun _ => 0)), .inl (cy 1, 160, .inr (.inl (fun _ => 0))), .inl (cy 1, 40, .inr (.inl (fun _ => 0)))]) C hnm us_X5 tyX5 tyX5_ok nmX5 (ci := 5) rfl 16 (by decide) wd_812 rfl rfl rfl rfl rfl 0 rfl rfl (Nat.le_of_ble_eq_true rfl) rfl dX5_init_80 ?_
  refine ga_aload_n C dX5_init_83 0 0 rfl rfl ?_
  refine ga_get (v := .ref (n0 + 1)) C us_X5 (ci := 5) rfl 0 (by decide) wd_796 0 rfl rfl rfl dX5_init_84 ?_
  refine ga_iconst (v := 3) C dX5_init_87 (by decide) ?_
  refine ga_bipush (v := 14) C dX5_init_88 (by decide) ?_
  refine ga_iast (cs' := [.inr (5, [.ref (n0 + 1), .ref (n0 + 2), .ref (n0 + 3), .ref (n0 + 4), .ref (n0 + 5), .int 0, .int 0, .ref (n0 + 6), .int 0, .int 0, .int 0, .int 0, .int 0, .ref (n0 + 7), .ref (n0 + 8), .ref (n0 + 9), .ref (n0 + 10)]), .inl (cy 0, 39, .inl (upd (fun _ => 0) 3 14)), .inl (cy 0, 39, .inl (fun _ => 0)), .inl (cy 0, 39, .inl (fun _ => 0)), .inl (cy 0, 39, .inl (fun _ => 0)), .inl (cy 0, 7, .inl (fun _ => 0)), .inl (cy 0, 120, .inl (fun _ => 0)), .inl (cy 0, 4, .inl (fun _ => 0)), .inl (cy 0, 4, .inl (fun _ => 0)), .inl (cy 1, 160, .inr (.inl (fun _ => 0))), .inl (cy 1, 40, .inr (.inl (fun _ => 0)))]) C 1 rfl rfl (by decide) rfl dX5_init_90 ?_
  refine ga_aload_n C dX5_init_91 0 0 rfl rfl ?_
  refine ga_get (v := .ref (n0 + 1)) C us_X5 (ci := 5) rfl 0 (by decide) wd_796 0 rfl rfl rfl dX5_init_92 ?_
  refine ga_iconst (v := 4) C dX5_init_95 (by decide) ?_
  refine ga_iconst (v := 3) C dX5_init_96 (by decide) ?_
  refine ga_iast (cs' := [.inr (5, [.ref (n0 + 1), .ref (n0 + 2), .ref (n0 + 3), .ref (n0 + 4), .ref (n0 + 5), .int 0, .int 0, .ref (n0 + 6), .int 0, .int 0, .int 0, .int 0, .int 0, .ref (n0 + 7), .ref (n0 + 8), .ref (n0 + 9), .ref (n0 + 10)]), .inl (cy 0, 39, .inl (upd (upd (fun _ => 0) 3 14) 4 3)), .inl (cy 0, 39, .inl (fun _ => 0)), .inl (cy 0, 39, .inl (fun _ => 0)), .inl (cy 0, 39, .inl (fun _ => 0)), .inl (cy 0, 7, .inl (fun _ => 0)), .inl (cy 0, 120, .inl (fun _ => 0)), .inl (cy 0, 4, .inl (fun _ => 0)), .inl (cy 0, 4, .inl (fun _ => 0)), .inl (cy 1, 160, .inr (.inl (fun _ => 0))), .inl (cy 1, 40, .inr (.inl (fun _ => 0)))]) C 1 rfl rfl (by decide) rfl dX5_init_97 ?_
  refine ga_aload_n C dX5_init_98 0 0 rfl rfl ?_
  refine ga_get (v := .ref (n0 + 1)) C us_X5 (ci := 5) rfl 0 (by decide) wd_796 0 rfl rfl rfl dX5_init_99 ?_
  refine ga_iconst (v := 5) C dX5_init_102 (by decide) ?_
  refine ga_bipush (v := 24) C dX5_init_103 (by decide) ?_
  refine ga_iast (cs' := [.inr (5, [.ref (n0 + 1), .ref (n0 + 2), .ref (n0 + 3), .ref (n0 + 4), .ref (n0 + 5), .int 0, .int 0, .ref (n0 + 6), .int 0, .int 0, .int 0, .int 0, .int 0, .ref (n0 + 7), .ref (n0 + 8), .ref (n0 + 9), .ref (n0 + 10)]), .inl (cy 0, 39, .inl (upd (upd (upd (fun _ => 0) 3 14) 4 3) 5 24)), .inl (cy 0, 39, .inl (fun _ => 0)), .inl (cy 0, 39, .inl (fun _ => 0)), .inl (cy 0, 39, .inl (fun _ => 0)), .inl (cy 0, 7, .inl (fun _ => 0)), .inl (cy 0, 120, .inl (fun _ => 0)), .inl (cy 0, 4, .inl (fun _ => 0)), .inl (cy 0, 4, .inl (fun _ => 0)), .inl (cy 1, 160, .inr (.inl (fun _ => 0))), .inl (cy 1, 40, .inr (.inl (fun _ => 0)))]) C 1 rfl rfl (by decide) rfl dX5_init_105 ?_
  exact ga_ret C hr hlk dX5_init_106
