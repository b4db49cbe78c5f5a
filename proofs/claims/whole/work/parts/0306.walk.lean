theorem dX5_adds_0 : decode cX5_adds 0 = .ok (.aload_n 0, 1) := by decide +kernel
theorem dX5_adds_1 : decode cX5_adds 1 = .ok (.getfield 7, 3) := by decide +kernel
theorem dX5_adds_4 : decode cX5_adds 4 = .ok (.iconst 1, 1) := by decide +kernel
theorem dX5_adds_5 : decode cX5_adds 5 = .ok (.iaload, 1) := by decide +kernel
theorem dX5_adds_6 : decode cX5_adds 6 = .ok (.istore 4, 2) := by decide +kernel
theorem dX5_adds_8 : decode cX5_adds 8 = .ok (.aload_n 0, 1) := by decide +kernel
theorem dX5_adds_9 : decode cX5_adds 9 = .ok (.getfield 7, 3) := by decide +kernel
theorem dX5_adds_12 : decode cX5_adds 12 = .ok (.iload 4, 2) := by decide +kernel
theorem dX5_adds_14 : decode cX5_adds 14 = .ok (.iconst 0, 1) := by decide +kernel
theorem dX5_adds_15 : decode cX5_adds 15 = .ok (.invokestatic 58, 3) := by decide +kernel
theorem dX5_adds_18 : decode cX5_adds 18 = .ok (.iload_n 1, 1) := by decide +kernel
theorem dX5_adds_19 : decode cX5_adds 19 = .ok (.iastore, 1) := by decide +kernel
theorem dX5_adds_20 : decode cX5_adds 20 = .ok (.aload_n 0, 1) := by decide +kernel
theorem dX5_adds_21 : decode cX5_adds 21 = .ok (.getfield 7, 3) := by decide +kernel
theorem dX5_adds_24 : decode cX5_adds 24 = .ok (.iload 4, 2) := by decide +kernel
theorem dX5_adds_26 : decode cX5_adds 26 = .ok (.iconst 1, 1) := by decide +kernel
theorem dX5_adds_27 : decode cX5_adds 27 = .ok (.invokestatic 58, 3) := by decide +kernel
theorem dX5_adds_30 : decode cX5_adds 30 = .ok (.iload_n 2, 1) := by decide +kernel
theorem dX5_adds_31 : decode cX5_adds 31 = .ok (.iastore, 1) := by decide +kernel
theorem dX5_adds_32 : decode cX5_adds 32 = .ok (.aload_n 0, 1) := by decide +kernel
theorem dX5_adds_33 : decode cX5_adds 33 = .ok (.getfield 7, 3) := by decide +kernel
theorem dX5_adds_36 : decode cX5_adds 36 = .ok (.iload 4, 2) := by decide +kernel
theorem dX5_adds_38 : decode cX5_adds 38 = .ok (.iconst 2, 1) := by decide +kernel
theorem dX5_adds_39 : decode cX5_adds 39 = .ok (.invokestatic 58, 3) := by decide +kernel
theorem dX5_adds_42 : decode cX5_adds 42 = .ok (.iload_n 3, 1) := by decide +kernel
theorem dX5_adds_43 : decode cX5_adds 43 = .ok (.iastore, 1) := by decide +kernel
theorem dX5_adds_44 : decode cX5_adds 44 = .ok (.aload_n 0, 1) := by decide +kernel
theorem dX5_adds_45 : decode cX5_adds 45 = .ok (.getfield 7, 3) := by decide +kernel
theorem dX5_adds_48 : decode cX5_adds 48 = .ok (.iload 4, 2) := by decide +kernel
theorem dX5_adds_50 : decode cX5_adds 50 = .ok (.iconst 3, 1) := by decide +kernel
theorem dX5_adds_51 : decode cX5_adds 51 = .ok (.invokestatic 58, 3) := by decide +kernel
theorem dX5_adds_54 : decode cX5_adds 54 = .ok (.iconst 0, 1) := by decide +kernel
theorem dX5_adds_55 : decode cX5_adds 55 = .ok (.iastore, 1) := by decide +kernel
theorem dX5_adds_56 : decode cX5_adds 56 = .ok (.aload_n 0, 1) := by decide +kernel
theorem dX5_adds_57 : decode cX5_adds 57 = .ok (.getfield 7, 3) := by decide +kernel
theorem dX5_adds_60 : decode cX5_adds 60 = .ok (.iconst 1, 1) := by decide +kernel
theorem dX5_adds_61 : decode cX5_adds 61 = .ok (.dup2, 1) := by decide +kernel
theorem dX5_adds_62 : decode cX5_adds 62 = .ok (.iaload, 1) := by decide +kernel
theorem dX5_adds_63 : decode cX5_adds 63 = .ok (.iconst 1, 1) := by decide +kernel
theorem dX5_adds_64 : decode cX5_adds 64 = .ok (.iadd, 1) := by decide +kernel
theorem dX5_adds_65 : decode cX5_adds 65 = .ok (.iastore, 1) := by decide +kernel
theorem dX5_adds_66 : decode cX5_adds 66 = .ok (.iload 4, 2) := by decide +kernel
theorem dX5_adds_68 : decode cX5_adds 68 = .ok (.ireturn, 1) := by decide +kernel
def finX5_adds (M0 : Mi) (N : Ml) : Int32 × (Nat → Int32) → Option Value × Mi × Ml := fun b => (some (Value.int b.1), sR M0 0 (b.2), N)
noncomputable def fX5_adds   (σ : Nat → Int32) (x1 : Int32) (x2 : Int32) (x3 : Int32) : Option (Int32 × (Nat → Int32)) := (if inb (fX5_spotOf (σ 1) 0) 39 then (if inb (fX5_spotOf (σ 1) 1) 39 then (if inb (fX5_spotOf (σ 1) 2) 39 then (if inb (fX5_spotOf (σ 1) 3) 39 then (some ((σ 1), (upd (upd (upd (upd (upd σ (ix (fX5_spotOf (σ 1) 0)) x1) (ix (fX5_spotOf (σ 1) 1)) x2) (ix (fX5_spotOf (σ 1) 2)) x3) (ix (fX5_spotOf (σ 1) 3)) 0) 1 (((upd (upd (upd (upd σ (ix (fX5_spotOf (σ 1) 0)) x1) (ix (fX5_spotOf (σ 1) 1)) x2) (ix (fX5_spotOf (σ 1) 2)) x3) (ix (fX5_spotOf (σ 1) 3)) 0) 1) + 1)))) else none) else none) else none) else none)
theorem bX5_adds {Z : Zt} {E : Ec} {M0 : Mi} {N : Ml} (C : Ok 2 Z E cX5_adds 5 RX5 (some .int) 1)    (σ : Nat → Int32) (x1 : Int32) (x2 : Int32) (x3 : Int32)  : GT Z E 5 (finX5_adds M0 N) 0 [(0, .ref (zA Z 6 0)), (1, .int x1), (2, .int x2), (3, .int x3)] [] (sR M0 0 σ) N (fX5_adds σ x1 x2 x3) := by
  unfold fX5_adds
  refine r_aload_n C dX5_adds_0 0 0 rfl rfl ?_
  refine gf_X5_7 C dX5_adds_1 ?_
  refine r_iconst (v := 1) C dX5_adds_4 (by decide) ?_
  refine ald_M (v := (σ 1)) C mI_0 (by decide) (sR_at _ _ _ _) dX5_adds_5 ?_
  refine r_istore (lv' := [(4, .int (σ 1)), (0, .ref (zA Z 6 0)), (1, .int x1), (2, .int x2), (3, .int x3)]) C dX5_adds_6 (by decide) rfl ?_
  refine r_aload_n C dX5_adds_8 0 1 rfl rfl ?_
  refine gf_X5_7 C dX5_adds_9 ?_
  refine r_iload C dX5_adds_12 0 rfl ?_
  refine r_iconst (v := 0) C dX5_adds_14 (by decide) ?_
  refine r_callS (rest := [.ref (zA Z 0 0)]) (st2 := [.int (fX5_spotOf (σ 1) 0), .ref (zA Z 0 0)]) C (mX5_spotOf (eL E) C.z _ _ (σ 1) 0) lk_X5_58 (by decide) rfl rfl (Nat.le_of_ble_eq_true rfl) dX5_adds_15 rfl ?_
  refine r_iload_n C dX5_adds_18 1 2 rfl rfl ?_
  refine r_guard (fun h1 => ?_)
  refine ast_M (M' := (sR M0 0 (upd σ (ix (fX5_spotOf (σ 1) 0)) x1))) C mI_0 h1 (wM_sR _ _ _ _ _) dX5_adds_19 ?_
  refine r_aload_n C dX5_adds_20 0 1 rfl rfl ?_
  refine gf_X5_7 C dX5_adds_21 ?_
  refine r_iload C dX5_adds_24 0 rfl ?_
  refine r_iconst (v := 1) C dX5_adds_26 (by decide) ?_
  refine r_callS (rest := [.ref (zA Z 0 0)]) (st2 := [.int (fX5_spotOf (σ 1) 1), .ref (zA Z 0 0)]) C (mX5_spotOf (eL E) C.z _ _ (σ 1) 1) lk_X5_58 (by decide) rfl rfl (Nat.le_of_ble_eq_true rfl) dX5_adds_27 rfl ?_
  refine r_iload_n C dX5_adds_30 2 3 rfl rfl ?_
  refine r_guard (fun h2 => ?_)
  refine ast_M (M' := (sR M0 0 (upd (upd σ (ix (fX5_spotOf (σ 1) 0)) x1) (ix (fX5_spotOf (σ 1) 1)) x2))) C mI_0 h2 (wM_sR _ _ _ _ _) dX5_adds_31 ?_
  refine r_aload_n C dX5_adds_32 0 1 rfl rfl ?_
  refine gf_X5_7 C dX5_adds_33 ?_
  refine r_iload C dX5_adds_36 0 rfl ?_
  refine r_iconst (v := 2) C dX5_adds_38 (by decide) ?_
  refine r_callS (rest := [.ref (zA Z 0 0)]) (st2 := [.int (fX5_spotOf (σ 1) 2), .ref (zA Z 0 0)]) C (mX5_spotOf (eL E) C.z _ _ (σ 1) 2) lk_X5_58 (by decide) rfl rfl (Nat.le_of_ble_eq_true rfl) dX5_adds_39 rfl ?_
  refine r_iload_n C dX5_adds_42 3 4 rfl rfl ?_
  refine r_guard (fun h3 => ?_)
  refine ast_M (M' := (sR M0 0 (upd (upd (upd σ (ix (fX5_spotOf (σ 1) 0)) x1) (ix (fX5_spotOf (σ 1) 1)) x2) (ix (fX5_spotOf (σ 1) 2)) x3))) C mI_0 h3 (wM_sR _ _ _ _ _) dX5_adds_43 ?_
  refine r_aload_n C dX5_adds_44 0 1 rfl rfl ?_
  refine gf_X5_7 C dX5_adds_45 ?_
  refine r_iload C dX5_adds_48 0 rfl ?_
  refine r_iconst (v := 3) C dX5_adds_50 (by decide) ?_
  refine r_callS (rest := [.ref (zA Z 0 0)]) (st2 := [.int (fX5_spotOf (σ 1) 3), .ref (zA Z 0 0)]) C (mX5_spotOf (eL E) C.z _ _ (σ 1) 3) lk_X5_58 (by decide) rfl rfl (Nat.le_of_ble_eq_true rfl) dX5_adds_51 rfl ?_
  refine r_iconst (v := 0) C dX5_adds_54 (by decide) ?_
  refine r_guard (fun h4 => ?_)
  refine ast_M (M' := (sR M0 0 (upd (upd (upd (upd σ (ix (fX5_spotOf (σ 1) 0)) x1) (ix (fX5_spotOf (σ 1) 1)) x2) (ix (fX5_spotOf (σ 1) 2)) x3) (ix (fX5_spotOf (σ 1) 3)) 0))) C mI_0 h4 (wM_sR _ _ _ _ _) dX5_adds_55 ?_
  refine r_aload_n C dX5_adds_56 0 1 rfl rfl ?_
  refine gf_X5_7 C dX5_adds_57 ?_
  refine r_iconst (v := 1) C dX5_adds_60 (by decide) ?_
  refine r_dup2 C dX5_adds_61 rfl rfl ?_
  refine ald_M (v := ((upd (upd (upd (upd σ (ix (fX5_spotOf (σ 1) 0)) x1) (ix (fX5_spotOf (σ 1) 1)) x2) (ix (fX5_spotOf (σ 1) 2)) x3) (ix (fX5_spotOf (σ 1) 3)) 0) 1)) C mI_0 (by decide) (sR_at _ _ _ _) dX5_adds_62 ?_
  refine r_iconst (v := 1) C dX5_adds_63 (by decide) ?_
  refine r_iadd C dX5_adds_64 ?_
  refine ast_M (M' := (sR M0 0 (upd (upd (upd (upd (upd σ (ix (fX5_spotOf (σ 1) 0)) x1) (ix (fX5_spotOf (σ 1) 1)) x2) (ix (fX5_spotOf (σ 1) 2)) x3) (ix (fX5_spotOf (σ 1) 3)) 0) 1 (((upd (upd (upd (upd σ (ix (fX5_spotOf (σ 1) 0)) x1) (ix (fX5_spotOf (σ 1) 1)) x2) (ix (fX5_spotOf (σ 1) 2)) x3) (ix (fX5_spotOf (σ 1) 3)) 0) 1) + 1)))) C mI_0 (by decide) (wM_sR _ _ _ _ _) dX5_adds_65 ?_
  refine r_iload C dX5_adds_66 0 rfl ?_
  exact r_iret C dX5_adds_68 rfl
theorem mX5_adds (l : Launch) {Z : Zt} (hZ : Zok 2 Z) (M0 : Mi) (N : Ml) (σ : Nat → Int32) (x1 : Int32) (x2 : Int32) (x3 : Int32) (b : Int32 × (Nat → Int32)) (hb : fX5_adds σ x1 x2 x3 = some b) : Ct 2 Z l yX5_adds cX5_adds 5 (some .int) 1 [.ref (zA Z 6 0), .int x1, .int x2, .int x3] (sR M0 0 σ) N (some (Value.int b.1), sR M0 0 (b.2), N) :=
  metG (fin := (finX5_adds M0 N)) (by decide) (Nat.le_of_ble_eq_true rfl) (fun E _ C => bX5_adds C σ x1 x2 x3) hb
theorem dX5_tortoise_0 : decode cX5_tortoise 0 = .ok (.iload_n 1, 1) := by decide +kernel
theorem dX5_tortoise_1 : decode cX5_tortoise 1 = .ok (.invokestatic 107, 3) := by decide +kernel
theorem dX5_tortoise_4 : decode cX5_tortoise 4 = .ok (.ifCond .eq 18, 3) := by decide +kernel
theorem dX5_tortoise_7 : decode cX5_tortoise 7 = .ok (.iload_n 2, 1) := by decide +kernel
theorem dX5_tortoise_8 : decode cX5_tortoise 8 = .ok (.invokestatic 62, 3) := by decide +kernel
theorem dX5_tortoise_11 : decode cX5_tortoise 11 = .ok (.ifCond .eq 11, 3) := by decide +kernel
theorem dX5_tortoise_14 : decode cX5_tortoise 14 = .ok (.iload_n 3, 1) := by decide +kernel
theorem dX5_tortoise_15 : decode cX5_tortoise 15 = .ok (.i2l, 1) := by decide +kernel
theorem dX5_tortoise_16 : decode cX5_tortoise 16 = .ok (.invokestatic 110, 3) := by decide +kernel
theorem dX5_tortoise_19 : decode cX5_tortoise 19 = .ok (.ifCond .ne 10, 3) := by decide +kernel
theorem dX5_tortoise_22 : decode cX5_tortoise 22 = .ok (.aload_n 0, 1) := by decide +kernel
theorem dX5_tortoise_23 : decode cX5_tortoise 23 = .ok (.ldc 41, 2) := by decide +kernel
theorem dX5_tortoise_25 : decode cX5_tortoise 25 = .ok (.invokevirtual 65, 3) := by decide +kernel
theorem dX5_tortoise_28 : decode cX5_tortoise 28 = .ok (.ireturn, 1) := by decide +kernel
theorem dX5_tortoise_29 : decode cX5_tortoise 29 = .ok (.aload_n 0, 1) := by decide +kernel
theorem dX5_tortoise_30 : decode cX5_tortoise 30 = .ok (.getfield 7, 3) := by decide +kernel
theorem dX5_tortoise_33 : decode cX5_tortoise 33 = .ok (.iconst 1, 1) := by decide +kernel
theorem dX5_tortoise_34 : decode cX5_tortoise 34 = .ok (.iaload, 1) := by decide +kernel
theorem dX5_tortoise_35 : decode cX5_tortoise 35 = .ok (.bipush 8, 2) := by decide +kernel
theorem dX5_tortoise_37 : decode cX5_tortoise 37 = .ok (.if_icmp .ne 12, 3) := by decide +kernel
theorem dX5_tortoise_40 : decode cX5_tortoise 40 = .ok (.aload_n 0, 1) := by decide +kernel
theorem dX5_tortoise_41 : decode cX5_tortoise 41 = .ok (.ldc 114, 2) := by decide +kernel
theorem dX5_tortoise_43 : decode cX5_tortoise 43 = .ok (.invokevirtual 65, 3) := by decide +kernel
theorem dX5_tortoise_46 : decode cX5_tortoise 46 = .ok (.goto 10, 3) := by decide +kernel
theorem dX5_tortoise_49 : decode cX5_tortoise 49 = .ok (.aload_n 0, 1) := by decide +kernel
theorem dX5_tortoise_50 : decode cX5_tortoise 50 = .ok (.iload_n 1, 1) := by decide +kernel
theorem dX5_tortoise_51 : decode cX5_tortoise 51 = .ok (.iload_n 2, 1) := by decide +kernel
theorem dX5_tortoise_52 : decode cX5_tortoise 52 = .ok (.iload_n 3, 1) := by decide +kernel
theorem dX5_tortoise_53 : decode cX5_tortoise 53 = .ok (.invokevirtual 115, 3) := by decide +kernel
theorem dX5_tortoise_56 : decode cX5_tortoise 56 = .ok (.ireturn, 1) := by decide +kernel
def finX5_tortoise (N : Ml) : Int32 × Mi → Option Value × Mi × Ml := fun b => (some (Value.int b.1), b.2, N)
noncomputable def fX5_tortoise_22   (M : Mi) : Option (Int32 × Mi) := (Option.bind (fX5_finds M (-1000000001)) (fun a2 => (some (a2.1, (a2.2)))))
theorem bX5_tortoise_22 {Z : Zt} {E : Ec} {N : Ml} (C : Ok 2 Z E cX5_tortoise 4 RX5 (some .int) 2)    (M : Mi)  : GT Z E 4 (finX5_tortoise N) 22 [(0, .ref (zA Z 6 0))] [] M N (fX5_tortoise_22 M) := by
  unfold fX5_tortoise_22
  refine r_aload_n C dX5_tortoise_22 0 0 rfl rfl ?_
  refine r_ldc (v := (-1000000001)) C dX5_tortoise_23 wd_859 ?_
  refine r_bind (fun a2 ha2 => ?_)
  refine r_callV (rest := []) (st2 := [.int a2.1]) C (mX5_finds (eL E) C.z M N (-1000000001) a2 ha2) lk_X5_65 (rvM C) (by decide) rfl rfl (Nat.le_of_ble_eq_true rfl) dX5_tortoise_25 rfl ?_
  exact r_iret C dX5_tortoise_28 rfl
noncomputable def fX5_tortoise   (M : Mi) (x1 : Int32) (x2 : Int32) (x3 : Int32) : Option (Int32 × Mi) := (if (fX5_isKind x1) = 0 then (fX5_tortoise_22 M) else (if (fX5_isCell x2) = 0 then (fX5_tortoise_22 M) else (if (fX5_isSet (Int32.toInt64 x3)) = 0 then (fX5_tortoise_22 M) else (if (M 0 1) = 8 then (Option.bind (fX5_finds M (-1000000002)) (fun a7 => (some (a7.1, (a7.2))))) else (Option.bind (fX5_adds (M 0) x1 x2 x3) (fun a6 => (some (a6.1, (sR M 0 (a6.2))))))))))
theorem bX5_tortoise {Z : Zt} {E : Ec} {N : Ml} (C : Ok 2 Z E cX5_tortoise 4 RX5 (some .int) 2)    (M : Mi) (x1 : Int32) (x2 : Int32) (x3 : Int32)  : GT Z E 4 (finX5_tortoise N) 0 [(0, .ref (zA Z 6 0)), (1, .int x1), (2, .int x2), (3, .int x3)] [] M N (fX5_tortoise M x1 x2 x3) := by
  unfold fX5_tortoise
  refine r_iload_n C dX5_tortoise_0 1 1 rfl rfl ?_
  refine r_callS (rest := []) (st2 := [.int (fX5_isKind x1)]) C (mX5_isKind (eL E) C.z _ _ x1) lk_X5_107 (by decide) rfl rfl (Nat.le_of_ble_eq_true rfl) dX5_tortoise_1 rfl ?_
  refine r_if_eq (tgt := 22) C dX5_tortoise_4 (by decide) (fun c1 => ?_) (fun c1 => ?_)
  · refine r_lv [0] (lv' := [(0, .ref (zA Z 6 0))]) rfl ?_
    exact bX5_tortoise_22 C M
  · refine r_iload_n C dX5_tortoise_7 2 2 rfl rfl ?_
    refine r_callS (rest := []) (st2 := [.int (fX5_isCell x2)]) C (mX5_isCell (eL E) C.z _ _ x2) lk_X5_62 (by decide) rfl rfl (Nat.le_of_ble_eq_true rfl) dX5_tortoise_8 rfl ?_
    refine r_if_eq (tgt := 22) C dX5_tortoise_11 (by decide) (fun c3 => ?_) (fun c3 => ?_)
    · refine r_lv [0] (lv' := [(0, .ref (zA Z 6 0))]) rfl ?_
      exact bX5_tortoise_22 C M
    · refine r_iload_n C dX5_tortoise_14 3 3 rfl rfl ?_
      refine r_i2l C dX5_tortoise_15 ?_
      refine r_callS (rest := []) (st2 := [.int (fX5_isSet (Int32.toInt64 x3))]) C (mX5_isSet (eL E) C.z _ _ (Int32.toInt64 x3)) lk_X5_110 (by decide) rfl rfl (Nat.le_of_ble_eq_true rfl) dX5_tortoise_16 rfl ?_
      refine r_if_ne (tgt := 29) C dX5_tortoise_19 (by decide) (fun c4 => ?_) (fun c4 => ?_)
      · refine r_aload_n C dX5_tortoise_29 0 0 rfl rfl ?_
        refine gf_X5_7 C dX5_tortoise_30 ?_
        refine r_iconst (v := 1) C dX5_tortoise_33 (by decide) ?_
        refine ald_M (v := (M 0 1)) C mI_0 (by decide) rfl dX5_tortoise_34 ?_
        refine r_bipush (v := 8) C dX5_tortoise_35 (by decide) ?_
        refine r_ic_ne (tgt := 49) C dX5_tortoise_37 (by decide) (fun c5 => ?_) (fun c5 => ?_)
        · refine r_aload_n C dX5_tortoise_49 0 0 rfl rfl ?_
          refine r_iload_n C dX5_tortoise_50 1 1 rfl rfl ?_
          refine r_iload_n C dX5_tortoise_51 2 2 rfl rfl ?_
          refine r_iload_n C dX5_tortoise_52 3 3 rfl rfl ?_
          refine r_bind (fun a6 ha6 => ?_)
          refine r_callV (rest := []) (st2 := [.int a6.1]) C (mX5_adds (eL E) C.z M _ (M 0) x1 x2 x3 a6 ha6).selfW lk_X5_115 (rvM C) (by decide) rfl rfl (Nat.le_of_ble_eq_true rfl) dX5_tortoise_53 rfl ?_
          exact r_iret C dX5_tortoise_56 rfl
        · refine r_aload_n C dX5_tortoise_40 0 0 rfl rfl ?_
          refine r_ldc (v := (-1000000002)) C dX5_tortoise_41 wd_917 ?_
          refine r_bind (fun a7 ha7 => ?_)
          refine r_callV (rest := []) (st2 := [.int a7.1]) C (mX5_finds (eL E) C.z M N (-1000000002) a7 ha7) lk_X5_65 (rvM C) (by decide) rfl rfl (Nat.le_of_ble_eq_true rfl) dX5_tortoise_43 rfl ?_
          refine r_goto (tgt := 56) C dX5_tortoise_46 (by decide) ?_
          exact r_iret C dX5_tortoise_56 rfl
      · refine r_lv [0] (lv' := [(0, .ref (zA Z 6 0))]) rfl ?_
        exact bX5_tortoise_22 C M
theorem mX5_tortoise (l : Launch) {Z : Zt} (hZ : Zok 2 Z) (M : Mi) (N : Ml) (x1 : Int32) (x2 : Int32) (x3 : Int32) (b : Int32 × Mi) (hb : fX5_tortoise M x1 x2 x3 = some b) : Ct 2 Z l yX5_tortoise cX5_tortoise 4 (some .int) 2 [.ref (zA Z 6 0), .int x1, .int x2, .int x3] M N (some (Value.int b.1), b.2, N) :=
  metG (fin := (finX5_tortoise N)) (by decide) (Nat.le_of_ble_eq_true rfl) (fun E _ C => bX5_tortoise C M x1 x2 x3) hb
theorem dX5_of_0 : decode cX5_of 0 = .ok (.aload_n 0, 1) := by decide +kernel
theorem dX5_of_1 : decode cX5_of 1 = .ok (.iload_n 1, 1) := by decide +kernel
theorem dX5_of_2 : decode cX5_of 2 = .ok (.invokevirtual 54, 3) := by decide +kernel
theorem dX5_of_5 : decode cX5_of 5 = .ok (.ifCond .eq 15, 3) := by decide +kernel
theorem dX5_of_8 : decode cX5_of 8 = .ok (.iload_n 2, 1) := by decide +kernel
theorem dX5_of_9 : decode cX5_of 9 = .ok (.i2l, 1) := by decide +kernel
theorem dX5_of_10 : decode cX5_of 10 = .ok (.lconst 0, 1) := by decide +kernel
theorem dX5_of_11 : decode cX5_of 11 = .ok (.ldc2_w 48, 3) := by decide +kernel
theorem dX5_of_14 : decode cX5_of 14 = .ok (.invokestatic 44, 3) := by decide +kernel
theorem dX5_of_17 : decode cX5_of 17 = .ok (.ifCond .ne 10, 3) := by decide +kernel
theorem dX5_of_20 : decode cX5_of 20 = .ok (.aload_n 0, 1) := by decide +kernel
theorem dX5_of_21 : decode cX5_of 21 = .ok (.ldc 41, 2) := by decide +kernel
theorem dX5_of_23 : decode cX5_of 23 = .ok (.invokevirtual 65, 3) := by decide +kernel
theorem dX5_of_26 : decode cX5_of 26 = .ok (.ireturn, 1) := by decide +kernel
theorem dX5_of_27 : decode cX5_of 27 = .ok (.iload_n 2, 1) := by decide +kernel
theorem dX5_of_28 : decode cX5_of 28 = .ok (.iconst 4, 1) := by decide +kernel
theorem dX5_of_29 : decode cX5_of 29 = .ok (.if_icmp .ge 12, 3) := by decide +kernel
theorem dX5_of_32 : decode cX5_of 32 = .ok (.aload_n 0, 1) := by decide +kernel
theorem dX5_of_33 : decode cX5_of 33 = .ok (.iload_n 1, 1) := by decide +kernel
theorem dX5_of_34 : decode cX5_of 34 = .ok (.iload_n 2, 1) := by decide +kernel
theorem dX5_of_35 : decode cX5_of 35 = .ok (.invokevirtual 83, 3) := by decide +kernel
theorem dX5_of_38 : decode cX5_of 38 = .ok (.goto 21, 3) := by decide +kernel
theorem dX5_of_41 : decode cX5_of 41 = .ok (.iload_n 2, 1) := by decide +kernel
theorem dX5_of_42 : decode cX5_of 42 = .ok (.iconst 4, 1) := by decide +kernel
theorem dX5_of_43 : decode cX5_of 43 = .ok (.if_icmp .ne 11, 3) := by decide +kernel
theorem dX5_of_46 : decode cX5_of 46 = .ok (.aload_n 0, 1) := by decide +kernel
theorem dX5_of_47 : decode cX5_of 47 = .ok (.iload_n 1, 1) := by decide +kernel
theorem dX5_of_48 : decode cX5_of 48 = .ok (.invokevirtual 119, 3) := by decide +kernel
theorem dX5_of_51 : decode cX5_of 51 = .ok (.goto 8, 3) := by decide +kernel
theorem dX5_of_54 : decode cX5_of 54 = .ok (.aload_n 0, 1) := by decide +kernel
theorem dX5_of_55 : decode cX5_of 55 = .ok (.iload_n 1, 1) := by decide +kernel
theorem dX5_of_56 : decode cX5_of 56 = .ok (.invokevirtual 122, 3) := by decide +kernel
theorem dX5_of_59 : decode cX5_of 59 = .ok (.ireturn, 1) := by decide +kernel
def finX5_of (N : Ml) : Int32 × Mi → Option Value × Mi × Ml := fun b => (some (Value.int b.1), b.2, N)
noncomputable def fX5_of_20   (M : Mi) : Option (Int32 × Mi) := (Option.bind (fX5_finds M (-1000000001)) (fun a2 => (some (a2.1, (a2.2)))))
theorem bX5_of_20 {Z : Zt} {E : Ec} {N : Ml} (C : Ok 2 Z E cX5_of 3 RX5 (some .int) 3)    (M : Mi)  : GT Z E 3 (finX5_of N) 20 [(0, .ref (zA Z 6 0))] [] M N (fX5_of_20 M) := by
  unfold fX5_of_20
  refine r_aload_n C dX5_of_20 0 0 rfl rfl ?_
  refine r_ldc (v := (-1000000001)) C dX5_of_21 wd_859 ?_
  refine r_bind (fun a2 ha2 => ?_)
  refine r_callV (rest := []) (st2 := [.int a2.1]) C (mX5_finds (eL E) C.z M N (-1000000001) a2 ha2) lk_X5_65 (rvM C) (by decide) rfl rfl (Nat.le_of_ble_eq_true rfl) dX5_of_23 rfl ?_
  exact r_iret C dX5_of_26 rfl
noncomputable def fX5_of   (M : Mi) (x1 : Int32) (x2 : Int32) : Option (Int32 × Mi) := (if (fX5_isOne (M 0) x1) = 0 then (fX5_of_20 M) else (if (fX5_in (Int32.toInt64 x2) 0 5) = 0 then (fX5_of_20 M) else (if 4 ≤ x2 then (if x2 = 4 then (Option.bind (fX5_aimOf (M 0) x1) (fun a7 => (some (a7, M)))) else (Option.bind (fX5_paceOf (M 0) x1) (fun a6 => (some (a6, M))))) else (Option.bind (fX5_its (M 0) x1 x2) (fun a8 => (some (a8, M)))))))
theorem bX5_of {Z : Zt} {E : Ec} {N : Ml} (C : Ok 2 Z E cX5_of 3 RX5 (some .int) 3)    (M : Mi) (x1 : Int32) (x2 : Int32)  : GT Z E 3 (finX5_of N) 0 [(0, .ref (zA Z 6 0)), (1, .int x1), (2, .int x2)] [] M N (fX5_of M x1 x2) := by
  unfold fX5_of
  refine r_aload_n C dX5_of_0 0 0 rfl rfl ?_
  refine r_iload_n C dX5_of_1 1 1 rfl rfl ?_
  refine r_callV (rest := []) (st2 := [.int (fX5_isOne (M 0) x1)]) C (mX5_isOne (eL E) C.z M _ (M 0) x1).selfR lk_X5_54 (rvM C) (by decide) rfl rfl (Nat.le_of_ble_eq_true rfl) dX5_of_2 rfl ?_
  refine r_if_eq (tgt := 20) C dX5_of_5 (by decide) (fun c1 => ?_) (fun c1 => ?_)
  · refine r_lv [0] (lv' := [(0, .ref (zA Z 6 0))]) rfl ?_
    exact bX5_of_20 C M
  · refine r_iload_n C dX5_of_8 2 2 rfl rfl ?_
    refine r_i2l C dX5_of_9 ?_
    refine r_lconst (v := 0) C dX5_of_10 (by decide) ?_
    refine r_ldc2 (v := 5) C dX5_of_11 wd_912 ?_
    refine r_callS (rest := []) (st2 := [.int (fX5_in (Int32.toInt64 x2) 0 5)]) C (mX5_in (eL E) C.z _ _ (Int32.toInt64 x2) 0 5) lk_X5_44 (by decide) rfl rfl (Nat.le_of_ble_eq_true rfl) dX5_of_14 rfl ?_
    refine r_if_ne (tgt := 27) C dX5_of_17 (by decide) (fun c3 => ?_) (fun c3 => ?_)
    · refine r_iload_n C dX5_of_27 2 2 rfl rfl ?_
      refine r_iconst (v := 4) C dX5_of_28 (by decide) ?_
      refine r_ic_ge (tgt := 41) C dX5_of_29 (by decide) (fun c4 => ?_) (fun c4 => ?_)
      · refine r_iload_n C dX5_of_41 2 2 rfl rfl ?_
        refine r_iconst (v := 4) C dX5_of_42 (by decide) ?_
        refine r_ic_ne (tgt := 54) C dX5_of_43 (by decide) (fun c5 => ?_) (fun c5 => ?_)
        · refine r_aload_n C dX5_of_54 0 0 rfl rfl ?_
          refine r_iload_n C dX5_of_55 1 1 rfl rfl ?_
          refine r_bind (fun a6 ha6 => ?_)
          refine r_callV (rest := []) (st2 := [.int a6]) C (mX5_paceOf (eL E) C.z M _ (M 0) x1 a6 ha6).selfR lk_X5_122 (rvM C) (by decide) rfl rfl (Nat.le_of_ble_eq_true rfl) dX5_of_56 rfl ?_
          exact r_iret C dX5_of_59 rfl
        · refine r_aload_n C dX5_of_46 0 0 rfl rfl ?_
          refine r_iload_n C dX5_of_47 1 1 rfl rfl ?_
          refine r_bind (fun a7 ha7 => ?_)
          refine r_callV (rest := []) (st2 := [.int a7]) C (mX5_aimOf (eL E) C.z M _ (M 0) x1 a7 ha7).selfR lk_X5_119 (rvM C) (by decide) rfl rfl (Nat.le_of_ble_eq_true rfl) dX5_of_48 rfl ?_
          refine r_goto (tgt := 59) C dX5_of_51 (by decide) ?_
          exact r_iret C dX5_of_59 rfl
      · refine r_aload_n C dX5_of_32 0 0 rfl rfl ?_
        refine r_iload_n C dX5_of_33 1 1 rfl rfl ?_
        refine r_iload_n C dX5_of_34 2 2 rfl rfl ?_
        refine r_bind (fun a8 ha8 => ?_)
        refine r_callV (rest := []) (st2 := [.int a8]) C (mX5_its (eL E) C.z M _ (M 0) x1 x2 a8 ha8).selfR lk_X5_83 (rvM C) (by decide) rfl rfl (Nat.le_of_ble_eq_true rfl) dX5_of_35 rfl ?_
        refine r_goto (tgt := 59) C dX5_of_38 (by decide) ?_
        exact r_iret C dX5_of_59 rfl
    · refine r_lv [0] (lv' := [(0, .ref (zA Z 6 0))]) rfl ?_
      exact bX5_of_20 C M
theorem mX5_of (l : Launch) {Z : Zt} (hZ : Zok 2 Z) (M : Mi) (N : Ml) (x1 : Int32) (x2 : Int32) (b : Int32 × Mi) (hb : fX5_of M x1 x2 = some b) : Ct 2 Z l yX5_of cX5_of 3 (some .int) 3 [.ref (zA Z 6 0), .int x1, .int x2] M N (some (Value.int b.1), b.2, N) :=
  metG (fin := (finX5_of N)) (by decide) (Nat.le_of_ble_eq_true rfl) (fun E _ C => bX5_of C M x1 x2) hb
theorem dX5_set_0 : decode cX5_set 0 = .ok (.iload_n 2, 1) := by decide +kernel
theorem dX5_set_1 : decode cX5_set 1 = .ok (.iconst 1, 1) := by decide +kernel
theorem dX5_set_2 : decode cX5_set 2 = .ok (.if_icmp .ne 10, 3) := by decide +kernel
theorem dX5_set_5 : decode cX5_set 5 = .ok (.iload_n 3, 1) := by decide +kernel
theorem dX5_set_6 : decode cX5_set 6 = .ok (.invokestatic 62, 3) := by decide +kernel
theorem dX5_set_9 : decode cX5_set 9 = .ok (.goto 36, 3) := by decide +kernel
theorem dX5_set_12 : decode cX5_set 12 = .ok (.iload_n 2, 1) := by decide +kernel
theorem dX5_set_13 : decode cX5_set 13 = .ok (.iconst 2, 1) := by decide +kernel
theorem dX5_set_14 : decode cX5_set 14 = .ok (.if_icmp .ne 11, 3) := by decide +kernel
theorem dX5_set_17 : decode cX5_set 17 = .ok (.iload_n 3, 1) := by decide +kernel
theorem dX5_set_18 : decode cX5_set 18 = .ok (.i2l, 1) := by decide +kernel
theorem dX5_set_19 : decode cX5_set 19 = .ok (.invokestatic 110, 3) := by decide +kernel
theorem dX5_set_22 : decode cX5_set 22 = .ok (.goto 23, 3) := by decide +kernel
theorem dX5_set_25 : decode cX5_set 25 = .ok (.iload_n 2, 1) := by decide +kernel
theorem dX5_set_26 : decode cX5_set 26 = .ok (.iconst 3, 1) := by decide +kernel
theorem dX5_set_27 : decode cX5_set 27 = .ok (.if_icmp .ne 17, 3) := by decide +kernel
theorem dX5_set_30 : decode cX5_set 30 = .ok (.iload_n 3, 1) := by decide +kernel
theorem dX5_set_31 : decode cX5_set 31 = .ok (.i2l, 1) := by decide +kernel
theorem dX5_set_32 : decode cX5_set 32 = .ok (.lconst 0, 1) := by decide +kernel
theorem dX5_set_33 : decode cX5_set 33 = .ok (.lconst 1, 1) := by decide +kernel
theorem dX5_set_34 : decode cX5_set 34 = .ok (.invokestatic 44, 3) := by decide +kernel
theorem dX5_set_37 : decode cX5_set 37 = .ok (.ifCond .eq 7, 3) := by decide +kernel
theorem dX5_set_40 : decode cX5_set 40 = .ok (.iconst 1, 1) := by decide +kernel
theorem dX5_set_41 : decode cX5_set 41 = .ok (.goto 4, 3) := by decide +kernel
theorem dX5_set_44 : decode cX5_set 44 = .ok (.iconst 0, 1) := by decide +kernel
theorem dX5_set_45 : decode cX5_set 45 = .ok (.istore 4, 2) := by decide +kernel
theorem dX5_set_47 : decode cX5_set 47 = .ok (.aload_n 0, 1) := by decide +kernel
theorem dX5_set_48 : decode cX5_set 48 = .ok (.iload_n 1, 1) := by decide +kernel
theorem dX5_set_49 : decode cX5_set 49 = .ok (.invokevirtual 54, 3) := by decide +kernel
theorem dX5_set_52 : decode cX5_set 52 = .ok (.ifCond .eq 21, 3) := by decide +kernel
theorem dX5_set_55 : decode cX5_set 55 = .ok (.iload 4, 2) := by decide +kernel
theorem dX5_set_57 : decode cX5_set 57 = .ok (.ifCond .eq 16, 3) := by decide +kernel
theorem dX5_set_60 : decode cX5_set 60 = .ok (.aload_n 0, 1) := by decide +kernel
theorem dX5_set_61 : decode cX5_set 61 = .ok (.iload_n 1, 1) := by decide +kernel
theorem dX5_set_62 : decode cX5_set 62 = .ok (.iload_n 2, 1) := by decide +kernel
theorem dX5_set_63 : decode cX5_set 63 = .ok (.invokestatic 58, 3) := by decide +kernel
theorem dX5_set_66 : decode cX5_set 66 = .ok (.iload_n 3, 1) := by decide +kernel
theorem dX5_set_67 : decode cX5_set 67 = .ok (.invokevirtual 78, 3) := by decide +kernel
theorem dX5_set_70 : decode cX5_set 70 = .ok (.goto 9, 3) := by decide +kernel
theorem dX5_set_73 : decode cX5_set 73 = .ok (.aload_n 0, 1) := by decide +kernel
theorem dX5_set_74 : decode cX5_set 74 = .ok (.ldc 41, 2) := by decide +kernel
theorem dX5_set_76 : decode cX5_set 76 = .ok (.invokevirtual 65, 3) := by decide +kernel
theorem dX5_set_79 : decode cX5_set 79 = .ok (.ireturn, 1) := by decide +kernel
def finX5_set (N : Ml) : Int32 × Mi → Option Value × Mi × Ml := fun b => (some (Value.int b.1), b.2, N)
noncomputable def fX5_set_73   (M : Mi) : Option (Int32 × Mi) := (Option.bind (fX5_finds M (-1000000001)) (fun a5 => (some (a5.1, (a5.2)))))
theorem bX5_set_73 {Z : Zt} {E : Ec} {N : Ml} (C : Ok 2 Z E cX5_set 5 RX5 (some .int) 2)    (M : Mi)  : GT Z E 5 (finX5_set N) 73 [(0, .ref (zA Z 6 0))] [] M N (fX5_set_73 M) := by
  unfold fX5_set_73
  refine r_aload_n C dX5_set_73 0 0 rfl rfl ?_
  refine r_ldc (v := (-1000000001)) C dX5_set_74 wd_859 ?_
  refine r_bind (fun a5 ha5 => ?_)
  refine r_callV (rest := []) (st2 := [.int a5.1]) C (mX5_finds (eL E) C.z M N (-1000000001) a5 ha5) lk_X5_65 (rvM C) (by decide) rfl rfl (Nat.le_of_ble_eq_true rfl) dX5_set_76 rfl ?_
  exact r_iret C dX5_set_79 rfl
noncomputable def fX5_set_45   (M : Mi) (x1 : Int32) (x2 : Int32) (x3 : Int32) (s0 : Int32) : Option (Int32 × Mi) := (if (fX5_isOne (M 0) x1) = 0 then (fX5_set_73 M) else (if s0 = 0 then (fX5_set_73 M) else (Option.bind (fX5_becomes (M 0) (fX5_spotOf x1 x2) x3) (fun a7 => (some (a7.1, (sR M 0 (a7.2))))))))
theorem bX5_set_45 {Z : Zt} {E : Ec} {N : Ml} (C : Ok 2 Z E cX5_set 5 RX5 (some .int) 2)    (M : Mi) (x1 : Int32) (x2 : Int32) (x3 : Int32) (s0 : Int32)  : GT Z E 5 (finX5_set N) 45 [(0, .ref (zA Z 6 0)), (1, .int x1), (2, .int x2), (3, .int x3)] [.int s0] M N (fX5_set_45 M x1 x2 x3 s0) := by
  unfold fX5_set_45
  refine r_istore (lv' := [(4, .int s0), (0, .ref (zA Z 6 0)), (1, .int x1), (2, .int x2), (3, .int x3)]) C dX5_set_45 (by decide) rfl ?_
  refine r_aload_n C dX5_set_47 0 1 rfl rfl ?_
  refine r_iload_n C dX5_set_48 1 2 rfl rfl ?_
  refine r_callV (rest := []) (st2 := [.int (fX5_isOne (M 0) x1)]) C (mX5_isOne (eL E) C.z M _ (M 0) x1).selfR lk_X5_54 (rvM C) (by decide) rfl rfl (Nat.le_of_ble_eq_true rfl) dX5_set_49 rfl ?_
  refine r_if_eq (tgt := 73) C dX5_set_52 (by decide) (fun c4 => ?_) (fun c4 => ?_)
  · refine r_lv [1] (lv' := [(0, .ref (zA Z 6 0))]) rfl ?_
    exact bX5_set_73 C M
  · refine r_iload C dX5_set_55 0 rfl ?_
    refine r_if_eq (tgt := 73) C dX5_set_57 (by decide) (fun c6 => ?_) (fun c6 => ?_)
    · refine r_lv [1] (lv' := [(0, .ref (zA Z 6 0))]) rfl ?_
      exact bX5_set_73 C M
    · refine r_aload_n C dX5_set_60 0 1 rfl rfl ?_
      refine r_iload_n C dX5_set_61 1 2 rfl rfl ?_
      refine r_iload_n C dX5_set_62 2 3 rfl rfl ?_
      refine r_callS (rest := [.ref (zA Z 6 0)]) (st2 := [.int (fX5_spotOf x1 x2), .ref (zA Z 6 0)]) C (mX5_spotOf (eL E) C.z _ _ x1 x2) lk_X5_58 (by decide) rfl rfl (Nat.le_of_ble_eq_true rfl) dX5_set_63 rfl ?_
      refine r_iload_n C dX5_set_66 3 4 rfl rfl ?_
      refine r_bind (fun a7 ha7 => ?_)
      refine r_callV (rest := []) (st2 := [.int a7.1]) C (mX5_becomes (eL E) C.z M _ (M 0) (fX5_spotOf x1 x2) x3 a7 ha7).selfW lk_X5_78 (rvM C) (by decide) rfl rfl (Nat.le_of_ble_eq_true rfl) dX5_set_67 rfl ?_
      refine r_goto (tgt := 79) C dX5_set_70 (by decide) ?_
      exact r_iret C dX5_set_79 rfl
noncomputable def fX5_set_44   (M : Mi) (x1 : Int32) (x2 : Int32) (x3 : Int32) : Option (Int32 × Mi) := (fX5_set_45 M x1 x2 x3 0)
theorem bX5_set_44 {Z : Zt} {E : Ec} {N : Ml} (C : Ok 2 Z E cX5_set 5 RX5 (some .int) 2)    (M : Mi) (x1 : Int32) (x2 : Int32) (x3 : Int32)  : GT Z E 5 (finX5_set N) 44 [(0, .ref (zA Z 6 0)), (1, .int x1), (2, .int x2), (3, .int x3)] [] M N (fX5_set_44 M x1 x2 x3) := by
  unfold fX5_set_44
  refine r_iconst (v := 0) C dX5_set_44 (by decide) ?_
  exact bX5_set_45 C M x1 x2 x3 0
noncomputable def fX5_set   (M : Mi) (x1 : Int32) (x2 : Int32) (x3 : Int32) : Option (Int32 × Mi) := (if x2 = 1 then (fX5_set_45 M x1 x2 x3 (fX5_isCell x3)) else (if x2 = 2 then (fX5_set_45 M x1 x2 x3 (fX5_isSet (Int32.toInt64 x3))) else (if x2 = 3 then (if (fX5_in (Int32.toInt64 x3) 0 1) = 0 then (fX5_set_44 M x1 x2 x3) else (fX5_set_45 M x1 x2 x3 1)) else (fX5_set_44 M x1 x2 x3))))
theorem bX5_set {Z : Zt} {E : Ec} {N : Ml} (C : Ok 2 Z E cX5_set 5 RX5 (some .int) 2)    (M : Mi) (x1 : Int32) (x2 : Int32) (x3 : Int32)  : GT Z E 5 (finX5_set N) 0 [(0, .ref (zA Z 6 0)), (1, .int x1), (2, .int x2), (3, .int x3)] [] M N (fX5_set M x1 x2 x3) := by
  unfold fX5_set
  refine r_iload_n C dX5_set_0 2 2 rfl rfl ?_
  refine r_iconst (v := 1) C dX5_set_1 (by decide) ?_
  refine r_ic_ne (tgt := 12) C dX5_set_2 (by decide) (fun c1 => ?_) (fun c1 => ?_)
  · refine r_iload_n C dX5_set_12 2 2 rfl rfl ?_
    refine r_iconst (v := 2) C dX5_set_13 (by decide) ?_
    refine r_ic_ne (tgt := 25) C dX5_set_14 (by decide) (fun c2 => ?_) (fun c2 => ?_)
    · refine r_iload_n C dX5_set_25 2 2 rfl rfl ?_
      refine r_iconst (v := 3) C dX5_set_26 (by decide) ?_
      refine r_ic_ne (tgt := 44) C dX5_set_27 (by decide) (fun c3 => ?_) (fun c3 => ?_)
      · exact bX5_set_44 C M x1 x2 x3
      · refine r_iload_n C dX5_set_30 3 3 rfl rfl ?_
        refine r_i2l C dX5_set_31 ?_
        refine r_lconst (v := 0) C dX5_set_32 (by decide) ?_
        refine r_lconst (v := 1) C dX5_set_33 (by decide) ?_
        refine r_callS (rest := []) (st2 := [.int (fX5_in (Int32.toInt64 x3) 0 1)]) C (mX5_in (eL E) C.z _ _ (Int32.toInt64 x3) 0 1) lk_X5_44 (by decide) rfl rfl (Nat.le_of_ble_eq_true rfl) dX5_set_34 rfl ?_
        refine r_if_eq (tgt := 44) C dX5_set_37 (by decide) (fun c8 => ?_) (fun c8 => ?_)
        · exact bX5_set_44 C M x1 x2 x3
        · refine r_iconst (v := 1) C dX5_set_40 (by decide) ?_
          refine r_goto (tgt := 45) C dX5_set_41 (by decide) ?_
          exact bX5_set_45 C M x1 x2 x3 1
    · refine r_iload_n C dX5_set_17 3 3 rfl rfl ?_
      refine r_i2l C dX5_set_18 ?_
      refine r_callS (rest := []) (st2 := [.int (fX5_isSet (Int32.toInt64 x3))]) C (mX5_isSet (eL E) C.z _ _ (Int32.toInt64 x3)) lk_X5_110 (by decide) rfl rfl (Nat.le_of_ble_eq_true rfl) dX5_set_19 rfl ?_
      refine r_goto (tgt := 45) C dX5_set_22 (by decide) ?_
      exact bX5_set_45 C M x1 x2 x3 (fX5_isSet (Int32.toInt64 x3))
  · refine r_iload_n C dX5_set_5 3 3 rfl rfl ?_
    refine r_callS (rest := []) (st2 := [.int (fX5_isCell x3)]) C (mX5_isCell (eL E) C.z _ _ x3) lk_X5_62 (by decide) rfl rfl (Nat.le_of_ble_eq_true rfl) dX5_set_6 rfl ?_
    refine r_goto (tgt := 45) C dX5_set_9 (by decide) ?_
    exact bX5_set_45 C M x1 x2 x3 (fX5_isCell x3)
theorem mX5_set (l : Launch) {Z : Zt} (hZ : Zok 2 Z) (M : Mi) (N : Ml) (x1 : Int32) (x2 : Int32) (x3 : Int32) (b : Int32 × Mi) (hb : fX5_set M x1 x2 x3 = some b) : Ct 2 Z l yX5_set cX5_set 5 (some .int) 2 [.ref (zA Z 6 0), .int x1, .int x2, .int x3] M N (some (Value.int b.1), b.2, N) :=
  metG (fin := (finX5_set N)) (by decide) (Nat.le_of_ble_eq_true rfl) (fun E _ C => bX5_set C M x1 x2 x3) hb
theorem dX5_turn_0 : decode cX5_turn 0 = .ok (.aload_n 0, 1) := by decide +kernel
theorem dX5_turn_1 : decode cX5_turn 1 = .ok (.iload_n 1, 1) := by decide +kernel
theorem dX5_turn_2 : decode cX5_turn 2 = .ok (.invokevirtual 54, 3) := by decide +kernel
theorem dX5_turn_5 : decode cX5_turn 5 = .ok (.ifCond .eq 23, 3) := by decide +kernel
theorem dX5_turn_8 : decode cX5_turn 8 = .ok (.iload_n 2, 1) := by decide +kernel
theorem dX5_turn_9 : decode cX5_turn 9 = .ok (.invokestatic 107, 3) := by decide +kernel
theorem dX5_turn_12 : decode cX5_turn 12 = .ok (.ifCond .eq 16, 3) := by decide +kernel
theorem dX5_turn_15 : decode cX5_turn 15 = .ok (.aload_n 0, 1) := by decide +kernel
theorem dX5_turn_16 : decode cX5_turn 16 = .ok (.iload_n 1, 1) := by decide +kernel
theorem dX5_turn_17 : decode cX5_turn 17 = .ok (.iconst 0, 1) := by decide +kernel
theorem dX5_turn_18 : decode cX5_turn 18 = .ok (.invokestatic 58, 3) := by decide +kernel
theorem dX5_turn_21 : decode cX5_turn 21 = .ok (.iload_n 2, 1) := by decide +kernel
theorem dX5_turn_22 : decode cX5_turn 22 = .ok (.invokevirtual 78, 3) := by decide +kernel
theorem dX5_turn_25 : decode cX5_turn 25 = .ok (.goto 9, 3) := by decide +kernel
theorem dX5_turn_28 : decode cX5_turn 28 = .ok (.aload_n 0, 1) := by decide +kernel
theorem dX5_turn_29 : decode cX5_turn 29 = .ok (.ldc 41, 2) := by decide +kernel
theorem dX5_turn_31 : decode cX5_turn 31 = .ok (.invokevirtual 65, 3) := by decide +kernel
theorem dX5_turn_34 : decode cX5_turn 34 = .ok (.ireturn, 1) := by decide +kernel
def finX5_turn (N : Ml) : Int32 × Mi → Option Value × Mi × Ml := fun b => (some (Value.int b.1), b.2, N)
noncomputable def fX5_turn_28   (M : Mi) : Option (Int32 × Mi) := (Option.bind (fX5_finds M (-1000000001)) (fun a2 => (some (a2.1, (a2.2)))))
theorem bX5_turn_28 {Z : Zt} {E : Ec} {N : Ml} (C : Ok 2 Z E cX5_turn 3 RX5 (some .int) 2)    (M : Mi)  : GT Z E 3 (finX5_turn N) 28 [(0, .ref (zA Z 6 0))] [] M N (fX5_turn_28 M) := by
  unfold fX5_turn_28
  refine r_aload_n C dX5_turn_28 0 0 rfl rfl ?_
  refine r_ldc (v := (-1000000001)) C dX5_turn_29 wd_859 ?_
  refine r_bind (fun a2 ha2 => ?_)
  refine r_callV (rest := []) (st2 := [.int a2.1]) C (mX5_finds (eL E) C.z M N (-1000000001) a2 ha2) lk_X5_65 (rvM C) (by decide) rfl rfl (Nat.le_of_ble_eq_true rfl) dX5_turn_31 rfl ?_
  exact r_iret C dX5_turn_34 rfl
noncomputable def fX5_turn   (M : Mi) (x1 : Int32) (x2 : Int32) : Option (Int32 × Mi) := (if (fX5_isOne (M 0) x1) = 0 then (fX5_turn_28 M) else (if (fX5_isKind x2) = 0 then (fX5_turn_28 M) else (Option.bind (fX5_becomes (M 0) (fX5_spotOf x1 0) x2) (fun a4 => (some (a4.1, (sR M 0 (a4.2))))))))
theorem bX5_turn {Z : Zt} {E : Ec} {N : Ml} (C : Ok 2 Z E cX5_turn 3 RX5 (some .int) 2)    (M : Mi) (x1 : Int32) (x2 : Int32)  : GT Z E 3 (finX5_turn N) 0 [(0, .ref (zA Z 6 0)), (1, .int x1), (2, .int x2)] [] M N (fX5_turn M x1 x2) := by
  unfold fX5_turn
  refine r_aload_n C dX5_turn_0 0 0 rfl rfl ?_
  refine r_iload_n C dX5_turn_1 1 1 rfl rfl ?_
  refine r_callV (rest := []) (st2 := [.int (fX5_isOne (M 0) x1)]) C (mX5_isOne (eL E) C.z M _ (M 0) x1).selfR lk_X5_54 (rvM C) (by decide) rfl rfl (Nat.le_of_ble_eq_true rfl) dX5_turn_2 rfl ?_
  refine r_if_eq (tgt := 28) C dX5_turn_5 (by decide) (fun c1 => ?_) (fun c1 => ?_)
  · refine r_lv [0] (lv' := [(0, .ref (zA Z 6 0))]) rfl ?_
    exact bX5_turn_28 C M
  · refine r_iload_n C dX5_turn_8 2 2 rfl rfl ?_
    refine r_callS (rest := []) (st2 := [.int (fX5_isKind x2)]) C (mX5_isKind (eL E) C.z _ _ x2) lk_X5_107 (by decide) rfl rfl (Nat.le_of_ble_eq_true rfl) dX5_turn_9 rfl ?_
    refine r_if_eq (tgt := 28) C dX5_turn_12 (by decide) (fun c3 => ?_) (fun c3 => ?_)
    · refine r_lv [0] (lv' := [(0, .ref (zA Z 6 0))]) rfl ?_
      exact bX5_turn_28 C M
    · refine r_aload_n C dX5_turn_15 0 0 rfl rfl ?_
      refine r_iload_n C dX5_turn_16 1 1 rfl rfl ?_
      refine r_iconst (v := 0) C dX5_turn_17 (by decide) ?_
      refine r_callS (rest := [.ref (zA Z 6 0)]) (st2 := [.int (fX5_spotOf x1 0), .ref (zA Z 6 0)]) C (mX5_spotOf (eL E) C.z _ _ x1 0) lk_X5_58 (by decide) rfl rfl (Nat.le_of_ble_eq_true rfl) dX5_turn_18 rfl ?_
      refine r_iload_n C dX5_turn_21 2 2 rfl rfl ?_
      refine r_bind (fun a4 ha4 => ?_)
      refine r_callV (rest := []) (st2 := [.int a4.1]) C (mX5_becomes (eL E) C.z M _ (M 0) (fX5_spotOf x1 0) x2 a4 ha4).selfW lk_X5_78 (rvM C) (by decide) rfl rfl (Nat.le_of_ble_eq_true rfl) dX5_turn_22 rfl ?_
      refine r_goto (tgt := 34) C dX5_turn_25 (by decide) ?_
      exact r_iret C dX5_turn_34 rfl
theorem mX5_turn (l : Launch) {Z : Zt} (hZ : Zok 2 Z) (M : Mi) (N : Ml) (x1 : Int32) (x2 : Int32) (b : Int32 × Mi) (hb : fX5_turn M x1 x2 = some b) : Ct 2 Z l yX5_turn cX5_turn 3 (some .int) 2 [.ref (zA Z 6 0), .int x1, .int x2] M N (some (Value.int b.1), b.2, N) :=
  metG (fin := (finX5_turn N)) (by decide) (Nat.le_of_ble_eq_true rfl) (fun E _ C => bX5_turn C M x1 x2) hb
theorem dX5_above_0 : decode cX5_above 0 = .ok (.iload_n 0, 1) := by decide +kernel
theorem dX5_above_1 : decode cX5_above 1 = .ok (.iconst 4, 1) := by decide +kernel
theorem dX5_above_2 : decode cX5_above 2 = .ok (.if_icmp .ne 7, 3) := by decide +kernel
theorem dX5_above_5 : decode cX5_above 5 = .ok (.iconst 1, 1) := by decide +kernel
theorem dX5_above_6 : decode cX5_above 6 = .ok (.goto 13, 3) := by decide +kernel
theorem dX5_above_9 : decode cX5_above 9 = .ok (.iload_n 0, 1) := by decide +kernel
theorem dX5_above_10 : decode cX5_above 10 = .ok (.iconst 5, 1) := by decide +kernel
theorem dX5_above_11 : decode cX5_above 11 = .ok (.if_icmp .ne 7, 3) := by decide +kernel
theorem dX5_above_14 : decode cX5_above 14 = .ok (.iconst 2, 1) := by decide +kernel
theorem dX5_above_15 : decode cX5_above 15 = .ok (.goto 4, 3) := by decide +kernel
theorem dX5_above_18 : decode cX5_above 18 = .ok (.iconst 0, 1) := by decide +kernel
theorem dX5_above_19 : decode cX5_above 19 = .ok (.ireturn, 1) := by decide +kernel
def finX5_above (M : Mi) (N : Ml) : Int32 → Option Value × Mi × Ml := fun b => (some (Value.int b), M, N)
noncomputable def fX5_above   (x0 : Int32) : Int32 := (if x0 = 4 then 1 else (if x0 = 5 then 2 else 0))
theorem bX5_above {Z : Zt} {E : Ec} {M : Mi} {N : Ml} (C : Ok 2 Z E cX5_above 1 RX5 (some .int) 0)    (x0 : Int32)  : GT Z E 1 (finX5_above M N) 0 [(0, .int x0)] [] M N (some (fX5_above x0)) := by
  unfold fX5_above
  refine r_iload_n C dX5_above_0 0 0 rfl rfl ?_
  refine r_iconst (v := 4) C dX5_above_1 (by decide) ?_
  refine r_st ?_
  refine r_ic_ne (tgt := 9) C dX5_above_2 (by decide) (fun c1 => ?_) (fun c1 => ?_)
  · refine r_iload_n C dX5_above_9 0 0 rfl rfl ?_
    refine r_iconst (v := 5) C dX5_above_10 (by decide) ?_
    refine r_st ?_
    refine r_ic_ne (tgt := 18) C dX5_above_11 (by decide) (fun c2 => ?_) (fun c2 => ?_)
    · refine r_iconst (v := 0) C dX5_above_18 (by decide) ?_
      exact r_iret C dX5_above_19 rfl
    · refine r_iconst (v := 2) C dX5_above_14 (by decide) ?_
      refine r_goto (tgt := 19) C dX5_above_15 (by decide) ?_
      exact r_iret C dX5_above_19 rfl
  · refine r_iconst (v := 1) C dX5_above_5 (by decide) ?_
    refine r_goto (tgt := 19) C dX5_above_6 (by decide) ?_
    exact r_iret C dX5_above_19 rfl
theorem mX5_above (l : Launch) {Z : Zt} (hZ : Zok 2 Z) (M : Mi) (N : Ml) (x0 : Int32) : Ct 2 Z l yX5_above cX5_above 1 (some .int) 0 [.int x0] M N (some (Value.int (fX5_above x0)), M, N) :=
  metG (fin := (finX5_above M N)) (by decide) (Nat.le_of_ble_eq_true rfl) (fun E _ C => bX5_above C x0) rfl
theorem dX5_as_0 : decode cX5_as 0 = .ok (.aload_n 0, 1) := by decide +kernel
theorem dX5_as_1 : decode cX5_as 1 = .ok (.iload_n 1, 1) := by decide +kernel
theorem dX5_as_2 : decode cX5_as 2 = .ok (.invokevirtual 54, 3) := by decide +kernel
theorem dX5_as_5 : decode cX5_as 5 = .ok (.ifCond .eq 10, 3) := by decide +kernel
theorem dX5_as_8 : decode cX5_as 8 = .ok (.iload_n 2, 1) := by decide +kernel
theorem dX5_as_9 : decode cX5_as 9 = .ok (.invokestatic 107, 3) := by decide +kernel
theorem dX5_as_12 : decode cX5_as 12 = .ok (.ifCond .ne 10, 3) := by decide +kernel
theorem dX5_as_15 : decode cX5_as 15 = .ok (.aload_n 0, 1) := by decide +kernel
theorem dX5_as_16 : decode cX5_as 16 = .ok (.ldc 41, 2) := by decide +kernel
theorem dX5_as_18 : decode cX5_as 18 = .ok (.invokevirtual 65, 3) := by decide +kernel
theorem dX5_as_21 : decode cX5_as 21 = .ok (.ireturn, 1) := by decide +kernel
theorem dX5_as_22 : decode cX5_as 22 = .ok (.aload_n 0, 1) := by decide +kernel
theorem dX5_as_23 : decode cX5_as 23 = .ok (.iload_n 1, 1) := by decide +kernel
theorem dX5_as_24 : decode cX5_as 24 = .ok (.iconst 0, 1) := by decide +kernel
theorem dX5_as_25 : decode cX5_as 25 = .ok (.invokevirtual 83, 3) := by decide +kernel
theorem dX5_as_28 : decode cX5_as 28 = .ok (.istore_n 3, 1) := by decide +kernel
theorem dX5_as_29 : decode cX5_as 29 = .ok (.iload_n 3, 1) := by decide +kernel
theorem dX5_as_30 : decode cX5_as 30 = .ok (.iload_n 2, 1) := by decide +kernel
theorem dX5_as_31 : decode cX5_as 31 = .ok (.if_icmp .eq 15, 3) := by decide +kernel
theorem dX5_as_34 : decode cX5_as 34 = .ok (.iload_n 3, 1) := by decide +kernel
theorem dX5_as_35 : decode cX5_as 35 = .ok (.ifCond .eq 11, 3) := by decide +kernel
theorem dX5_as_38 : decode cX5_as 38 = .ok (.iload_n 3, 1) := by decide +kernel
theorem dX5_as_39 : decode cX5_as 39 = .ok (.invokestatic 125, 3) := by decide +kernel
theorem dX5_as_42 : decode cX5_as 42 = .ok (.istore_n 3, 1) := by decide +kernel
theorem dX5_as_43 : decode cX5_as 43 = .ok (.goto (-14), 3) := by decide +kernel
theorem dX5_as_46 : decode cX5_as 46 = .ok (.iload_n 3, 1) := by decide +kernel
theorem dX5_as_47 : decode cX5_as 47 = .ok (.iload_n 2, 1) := by decide +kernel
theorem dX5_as_48 : decode cX5_as 48 = .ok (.if_icmp .ne 12, 3) := by decide +kernel
theorem dX5_as_51 : decode cX5_as 51 = .ok (.aload_n 0, 1) := by decide +kernel
theorem dX5_as_52 : decode cX5_as 52 = .ok (.iload_n 1, 1) := by decide +kernel
theorem dX5_as_53 : decode cX5_as 53 = .ok (.iconst 2, 1) := by decide +kernel
theorem dX5_as_54 : decode cX5_as 54 = .ok (.invokevirtual 83, 3) := by decide +kernel
theorem dX5_as_57 : decode cX5_as 57 = .ok (.goto 9, 3) := by decide +kernel
theorem dX5_as_60 : decode cX5_as 60 = .ok (.aload_n 0, 1) := by decide +kernel
theorem dX5_as_61 : decode cX5_as 61 = .ok (.ldc 128, 2) := by decide +kernel
theorem dX5_as_63 : decode cX5_as 63 = .ok (.invokevirtual 65, 3) := by decide +kernel
theorem dX5_as_66 : decode cX5_as 66 = .ok (.ireturn, 1) := by decide +kernel
def finX5_as (N : Ml) : Int32 × Mi → Option Value × Mi × Ml := fun b => (some (Value.int b.1), b.2, N)
noncomputable def fX5_as_15   (M : Mi) : Option (Int32 × Mi) := (Option.bind (fX5_finds M (-1000000001)) (fun a2 => (some (a2.1, (a2.2)))))
theorem bX5_as_15 {Z : Zt} {E : Ec} {N : Ml} (C : Ok 2 Z E cX5_as 4 RX5 (some .int) 2)    (M : Mi)  : GT Z E 4 (finX5_as N) 15 [(0, .ref (zA Z 6 0))] [] M N (fX5_as_15 M) := by
  unfold fX5_as_15
  refine r_aload_n C dX5_as_15 0 0 rfl rfl ?_
  refine r_ldc (v := (-1000000001)) C dX5_as_16 wd_859 ?_
  refine r_bind (fun a2 ha2 => ?_)
  refine r_callV (rest := []) (st2 := [.int a2.1]) C (mX5_finds (eL E) C.z M N (-1000000001) a2 ha2) lk_X5_65 (rvM C) (by decide) rfl rfl (Nat.le_of_ble_eq_true rfl) dX5_as_18 rfl ?_
  exact r_iret C dX5_as_21 rfl
noncomputable def fX5_as_46   (M : Mi) (x1 : Int32) (x2 : Int32) (x3 : Int32) : Option (Int32 × Mi) := (if x3 = x2 then (Option.bind (fX5_its (M 0) x1 2) (fun a8 => (some (a8, M)))) else (Option.bind (fX5_finds M (-1000000003)) (fun a7 => (some (a7.1, (a7.2))))))
theorem bX5_as_46 {Z : Zt} {E : Ec} {N : Ml} (C : Ok 2 Z E cX5_as 4 RX5 (some .int) 2)    (M : Mi) (x1 : Int32) (x2 : Int32) (x3 : Int32)  : GT Z E 4 (finX5_as N) 46 [(0, .ref (zA Z 6 0)), (1, .int x1), (2, .int x2), (3, .int x3)] [] M N (fX5_as_46 M x1 x2 x3) := by
  unfold fX5_as_46
  refine r_iload_n C dX5_as_46 3 3 rfl rfl ?_
  refine r_iload_n C dX5_as_47 2 2 rfl rfl ?_
  refine r_ic_ne (tgt := 60) C dX5_as_48 (by decide) (fun c6 => ?_) (fun c6 => ?_)
  · refine r_aload_n C dX5_as_60 0 0 rfl rfl ?_
    refine r_ldc (v := (-1000000003)) C dX5_as_61 wd_967 ?_
    refine r_bind (fun a7 ha7 => ?_)
    refine r_callV (rest := []) (st2 := [.int a7.1]) C (mX5_finds (eL E) C.z M N (-1000000003) a7 ha7) lk_X5_65 (rvM C) (by decide) rfl rfl (Nat.le_of_ble_eq_true rfl) dX5_as_63 rfl ?_
    exact r_iret C dX5_as_66 rfl
  · refine r_aload_n C dX5_as_51 0 0 rfl rfl ?_
    refine r_iload_n C dX5_as_52 1 1 rfl rfl ?_
    refine r_iconst (v := 2) C dX5_as_53 (by decide) ?_
    refine r_bind (fun a8 ha8 => ?_)
    refine r_callV (rest := []) (st2 := [.int a8]) C (mX5_its (eL E) C.z M _ (M 0) x1 2 a8 ha8).selfR lk_X5_83 (rvM C) (by decide) rfl rfl (Nat.le_of_ble_eq_true rfl) dX5_as_54 rfl ?_
    refine r_goto (tgt := 66) C dX5_as_57 (by decide) ?_
    exact r_iret C dX5_as_66 rfl
noncomputable def fX5_as_29   : Nat → Mi → Int32 → Int32 → Int32 → Option (Int32 × Mi)
  | 0 => fun _ _ _ _ => none
  | n + 1 => fun M x1 x2 x3 => (if x3 = x2 then (fX5_as_46 M x1 x2 x3) else (if x3 = 0 then (fX5_as_46 M x1 x2 x3) else ((fX5_as_29 n) M x1 x2 (fX5_above x3))))
theorem bX5_as_29 {Z : Zt} {E : Ec} {N : Ml} (C : Ok 2 Z E cX5_as 4 RX5 (some .int) 2)    : ∀ (n : Nat) (M : Mi) (x1 : Int32) (x2 : Int32) (x3 : Int32), GT Z E 4 (finX5_as N) 29 [(0, .ref (zA Z 6 0)), (1, .int x1), (2, .int x2), (3, .int x3)] [] M N (fX5_as_29 n M x1 x2 x3) := by
  intro n
  induction n with
  | zero => intro M x1 x2 x3; exact r_none
  | succ n ih =>
    intro M x1 x2 x3
    rw [fX5_as_29]
    refine r_iload_n C dX5_as_29 3 3 rfl rfl ?_
    refine r_iload_n C dX5_as_30 2 2 rfl rfl ?_
    refine r_ic_eq (tgt := 46) C dX5_as_31 (by decide) (fun c5 => ?_) (fun c5 => ?_)
    · exact bX5_as_46 C M x1 x2 x3
    · refine r_iload_n C dX5_as_34 3 3 rfl rfl ?_
      refine r_if_eq (tgt := 46) C dX5_as_35 (by decide) (fun c9 => ?_) (fun c9 => ?_)
      · exact bX5_as_46 C M x1 x2 x3
      · refine r_iload_n C dX5_as_38 3 3 rfl rfl ?_
        refine r_callS (rest := []) (st2 := [.int (fX5_above x3)]) C (mX5_above (eL E) C.z _ _ x3) lk_X5_125 (by decide) rfl rfl (Nat.le_of_ble_eq_true rfl) dX5_as_39 rfl ?_
        refine r_istore_n (lv' := [(3, .int (fX5_above x3)), (0, .ref (zA Z 6 0)), (1, .int x1), (2, .int x2)]) C dX5_as_42 3 rfl (by decide) rfl ?_
        refine r_goto (tgt := 29) C dX5_as_43 (by decide) ?_
        refine r_lv [1, 2, 3, 0] (lv' := [(0, .ref (zA Z 6 0)), (1, .int x1), (2, .int x2), (3, .int (fX5_above x3))]) rfl ?_
        exact ih M x1 x2 (fX5_above x3)
noncomputable def fX5_as   (M : Mi) (x1 : Int32) (x2 : Int32) : Option (Int32 × Mi) := (if (fX5_isOne (M 0) x1) = 0 then (fX5_as_15 M) else (if (fX5_isKind x2) = 0 then (fX5_as_15 M) else (Option.bind (fX5_its (M 0) x1 0) (fun a4 => (fX5_as_29 fu M x1 x2 a4)))))
theorem bX5_as {Z : Zt} {E : Ec} {N : Ml} (C : Ok 2 Z E cX5_as 4 RX5 (some .int) 2)    (M : Mi) (x1 : Int32) (x2 : Int32)  : GT Z E 4 (finX5_as N) 0 [(0, .ref (zA Z 6 0)), (1, .int x1), (2, .int x2)] [] M N (fX5_as M x1 x2) := by
  unfold fX5_as
  refine r_aload_n C dX5_as_0 0 0 rfl rfl ?_
  refine r_iload_n C dX5_as_1 1 1 rfl rfl ?_
  refine r_callV (rest := []) (st2 := [.int (fX5_isOne (M 0) x1)]) C (mX5_isOne (eL E) C.z M _ (M 0) x1).selfR lk_X5_54 (rvM C) (by decide) rfl rfl (Nat.le_of_ble_eq_true rfl) dX5_as_2 rfl ?_
  refine r_if_eq (tgt := 15) C dX5_as_5 (by decide) (fun c1 => ?_) (fun c1 => ?_)
  · refine r_lv [0] (lv' := [(0, .ref (zA Z 6 0))]) rfl ?_
    exact bX5_as_15 C M
  · refine r_iload_n C dX5_as_8 2 2 rfl rfl ?_
    refine r_callS (rest := []) (st2 := [.int (fX5_isKind x2)]) C (mX5_isKind (eL E) C.z _ _ x2) lk_X5_107 (by decide) rfl rfl (Nat.le_of_ble_eq_true rfl) dX5_as_9 rfl ?_
    refine r_if_ne (tgt := 22) C dX5_as_12 (by decide) (fun c3 => ?_) (fun c3 => ?_)
    · refine r_aload_n C dX5_as_22 0 0 rfl rfl ?_
      refine r_iload_n C dX5_as_23 1 1 rfl rfl ?_
      refine r_iconst (v := 0) C dX5_as_24 (by decide) ?_
      refine r_bind (fun a4 ha4 => ?_)
      refine r_callV (rest := []) (st2 := [.int a4]) C (mX5_its (eL E) C.z M _ (M 0) x1 0 a4 ha4).selfR lk_X5_83 (rvM C) (by decide) rfl rfl (Nat.le_of_ble_eq_true rfl) dX5_as_25 rfl ?_
      refine r_istore_n (lv' := [(3, .int a4), (0, .ref (zA Z 6 0)), (1, .int x1), (2, .int x2)]) C dX5_as_28 3 rfl (by decide) rfl ?_
      refine r_lv [1, 2, 3, 0] (lv' := [(0, .ref (zA Z 6 0)), (1, .int x1), (2, .int x2), (3, .int a4)]) rfl ?_
      exact bX5_as_29 C fu M x1 x2 a4
    · refine r_lv [0] (lv' := [(0, .ref (zA Z 6 0))]) rfl ?_
      exact bX5_as_15 C M
theorem mX5_as (l : Launch) {Z : Zt} (hZ : Zok 2 Z) (M : Mi) (N : Ml) (x1 : Int32) (x2 : Int32) (b : Int32 × Mi) (hb : fX5_as M x1 x2 = some b) : Ct 2 Z l yX5_as cX5_as 4 (some .int) 2 [.ref (zA Z 6 0), .int x1, .int x2] M N (some (Value.int b.1), b.2, N) :=
  metG (fin := (finX5_as N)) (by decide) (Nat.le_of_ble_eq_true rfl) (fun E _ C => bX5_as C M x1 x2) hb
theorem dX5_lends_0 : decode cX5_lends 0 = .ok (.aload_n 0, 1) := by decide +kernel
theorem dX5_lends_1 : decode cX5_lends 1 = .ok (.getfield 7, 3) := by decide +kernel
theorem dX5_lends_4 : decode cX5_lends 4 = .ok (.iload_n 1, 1) := by decide +kernel
theorem dX5_lends_5 : decode cX5_lends 5 = .ok (.iconst 2, 1) := by decide +kernel
theorem dX5_lends_6 : decode cX5_lends 6 = .ok (.invokestatic 58, 3) := by decide +kernel
theorem dX5_lends_9 : decode cX5_lends 9 = .ok (.dup2, 1) := by decide +kernel
theorem dX5_lends_10 : decode cX5_lends 10 = .ok (.iaload, 1) := by decide +kernel
theorem dX5_lends_11 : decode cX5_lends 11 = .ok (.iconst 1, 1) := by decide +kernel
theorem dX5_lends_12 : decode cX5_lends 12 = .ok (.iload_n 3, 1) := by decide +kernel
theorem dX5_lends_13 : decode cX5_lends 13 = .ok (.ishl, 1) := by decide +kernel
theorem dX5_lends_14 : decode cX5_lends 14 = .ok (.iconst (-1), 1) := by decide +kernel
theorem dX5_lends_15 : decode cX5_lends 15 = .ok (.ixor, 1) := by decide +kernel
theorem dX5_lends_16 : decode cX5_lends 16 = .ok (.iand, 1) := by decide +kernel
theorem dX5_lends_17 : decode cX5_lends 17 = .ok (.iastore, 1) := by decide +kernel
theorem dX5_lends_18 : decode cX5_lends 18 = .ok (.aload_n 0, 1) := by decide +kernel
theorem dX5_lends_19 : decode cX5_lends 19 = .ok (.getfield 7, 3) := by decide +kernel
theorem dX5_lends_22 : decode cX5_lends 22 = .ok (.iload_n 2, 1) := by decide +kernel
theorem dX5_lends_23 : decode cX5_lends 23 = .ok (.iconst 2, 1) := by decide +kernel
theorem dX5_lends_24 : decode cX5_lends 24 = .ok (.invokestatic 58, 3) := by decide +kernel
theorem dX5_lends_27 : decode cX5_lends 27 = .ok (.dup2, 1) := by decide +kernel
theorem dX5_lends_28 : decode cX5_lends 28 = .ok (.iaload, 1) := by decide +kernel
theorem dX5_lends_29 : decode cX5_lends 29 = .ok (.iconst 1, 1) := by decide +kernel
theorem dX5_lends_30 : decode cX5_lends 30 = .ok (.iload_n 3, 1) := by decide +kernel
theorem dX5_lends_31 : decode cX5_lends 31 = .ok (.ishl, 1) := by decide +kernel
theorem dX5_lends_32 : decode cX5_lends 32 = .ok (.ior, 1) := by decide +kernel
theorem dX5_lends_33 : decode cX5_lends 33 = .ok (.iastore, 1) := by decide +kernel
theorem dX5_lends_34 : decode cX5_lends 34 = .ok (.return_, 1) := by decide +kernel
def finX5_lends (M0 : Mi) (N : Ml) : (Nat → Int32) → Option Value × Mi × Ml := fun b => (none, sR M0 0 (b), N)
noncomputable def fX5_lends   (σ : Nat → Int32) (x1 : Int32) (x2 : Int32) (x3 : Int32) : Option ((Nat → Int32)) := (if inb (fX5_spotOf x1 2) 39 then (if inb (fX5_spotOf x2 2) 39 then (some (upd (upd σ (ix (fX5_spotOf x1 2)) ((σ (ix (fX5_spotOf x1 2))) &&& ((1 <<< (x3 &&& 31)) ^^^ (-1)))) (ix (fX5_spotOf x2 2)) (((upd σ (ix (fX5_spotOf x1 2)) ((σ (ix (fX5_spotOf x1 2))) &&& ((1 <<< (x3 &&& 31)) ^^^ (-1)))) (ix (fX5_spotOf x2 2))) ||| (1 <<< (x3 &&& 31))))) else none) else none)
theorem bX5_lends {Z : Zt} {E : Ec} {M0 : Mi} {N : Ml} (C : Ok 2 Z E cX5_lends 4 RX5 none 1)    (σ : Nat → Int32) (x1 : Int32) (x2 : Int32) (x3 : Int32)  : GT Z E 4 (finX5_lends M0 N) 0 [(0, .ref (zA Z 6 0)), (1, .int x1), (2, .int x2), (3, .int x3)] [] (sR M0 0 σ) N (fX5_lends σ x1 x2 x3) := by
  unfold fX5_lends
  refine r_aload_n C dX5_lends_0 0 0 rfl rfl ?_
  refine gf_X5_7 C dX5_lends_1 ?_
  refine r_iload_n C dX5_lends_4 1 1 rfl rfl ?_
  refine r_iconst (v := 2) C dX5_lends_5 (by decide) ?_
  refine r_callS (rest := [.ref (zA Z 0 0)]) (st2 := [.int (fX5_spotOf x1 2), .ref (zA Z 0 0)]) C (mX5_spotOf (eL E) C.z _ _ x1 2) lk_X5_58 (by decide) rfl rfl (Nat.le_of_ble_eq_true rfl) dX5_lends_6 rfl ?_
  refine r_dup2 C dX5_lends_9 rfl rfl ?_
  refine r_guard (fun h1 => ?_)
  refine ald_M (v := (σ (ix (fX5_spotOf x1 2)))) C mI_0 h1 (sR_at _ _ _ _) dX5_lends_10 ?_
  refine r_iconst (v := 1) C dX5_lends_11 (by decide) ?_
  refine r_iload_n C dX5_lends_12 3 3 rfl rfl ?_
  refine r_ishl C dX5_lends_13 ?_
  refine r_iconst (v := (-1)) C dX5_lends_14 (by decide) ?_
  refine r_ixor C dX5_lends_15 ?_
  refine r_iand C dX5_lends_16 ?_
  refine ast_M (M' := (sR M0 0 (upd σ (ix (fX5_spotOf x1 2)) ((σ (ix (fX5_spotOf x1 2))) &&& ((1 <<< (x3 &&& 31)) ^^^ (-1)))))) C mI_0 h1 (wM_sR _ _ _ _ _) dX5_lends_17 ?_
  refine r_aload_n C dX5_lends_18 0 0 rfl rfl ?_
  refine gf_X5_7 C dX5_lends_19 ?_
  refine r_iload_n C dX5_lends_22 2 2 rfl rfl ?_
  refine r_iconst (v := 2) C dX5_lends_23 (by decide) ?_
  refine r_callS (rest := [.ref (zA Z 0 0)]) (st2 := [.int (fX5_spotOf x2 2), .ref (zA Z 0 0)]) C (mX5_spotOf (eL E) C.z _ _ x2 2) lk_X5_58 (by decide) rfl rfl (Nat.le_of_ble_eq_true rfl) dX5_lends_24 rfl ?_
  refine r_dup2 C dX5_lends_27 rfl rfl ?_
  refine r_guard (fun h2 => ?_)
  refine ald_M (v := ((upd σ (ix (fX5_spotOf x1 2)) ((σ (ix (fX5_spotOf x1 2))) &&& ((1 <<< (x3 &&& 31)) ^^^ (-1)))) (ix (fX5_spotOf x2 2)))) C mI_0 h2 (sR_at _ _ _ _) dX5_lends_28 ?_
  refine r_iconst (v := 1) C dX5_lends_29 (by decide) ?_
  refine r_iload_n C dX5_lends_30 3 3 rfl rfl ?_
  refine r_ishl C dX5_lends_31 ?_
  refine r_ior C dX5_lends_32 ?_
  refine ast_M (M' := (sR M0 0 (upd (upd σ (ix (fX5_spotOf x1 2)) ((σ (ix (fX5_spotOf x1 2))) &&& ((1 <<< (x3 &&& 31)) ^^^ (-1)))) (ix (fX5_spotOf x2 2)) (((upd σ (ix (fX5_spotOf x1 2)) ((σ (ix (fX5_spotOf x1 2))) &&& ((1 <<< (x3 &&& 31)) ^^^ (-1)))) (ix (fX5_spotOf x2 2))) ||| (1 <<< (x3 &&& 31)))))) C mI_0 h2 (wM_sR _ _ _ _ _) dX5_lends_33 ?_
  exact r_vret C dX5_lends_34 rfl
theorem mX5_lends (l : Launch) {Z : Zt} (hZ : Zok 2 Z) (M0 : Mi) (N : Ml) (σ : Nat → Int32) (x1 : Int32) (x2 : Int32) (x3 : Int32) (b : (Nat → Int32)) (hb : fX5_lends σ x1 x2 x3 = some b) : Ct 2 Z l yX5_lends cX5_lends 4 none 1 [.ref (zA Z 6 0), .int x1, .int x2, .int x3] (sR M0 0 σ) N (none, sR M0 0 (b), N) :=
  metG (fin := (finX5_lends M0 N)) (by decide) (Nat.le_of_ble_eq_true rfl) (fun E _ C => bX5_lends C σ x1 x2 x3) hb
theorem dX5_lend_0 : decode cX5_lend 0 = .ok (.aload_n 0, 1) := by decide +kernel
theorem dX5_lend_1 : decode cX5_lend 1 = .ok (.iload_n 1, 1) := by decide +kernel
theorem dX5_lend_2 : decode cX5_lend 2 = .ok (.iload_n 2, 1) := by decide +kernel
theorem dX5_lend_3 : decode cX5_lend 3 = .ok (.invokevirtual 129, 3) := by decide +kernel
theorem dX5_lend_6 : decode cX5_lend 6 = .ok (.ifCond .eq 10, 3) := by decide +kernel
theorem dX5_lend_9 : decode cX5_lend 9 = .ok (.iload_n 3, 1) := by decide +kernel
theorem dX5_lend_10 : decode cX5_lend 10 = .ok (.invokestatic 133, 3) := by decide +kernel
theorem dX5_lend_13 : decode cX5_lend 13 = .ok (.ifCond .ne 10, 3) := by decide +kernel
theorem dX5_lend_16 : decode cX5_lend 16 = .ok (.aload_n 0, 1) := by decide +kernel
theorem dX5_lend_17 : decode cX5_lend 17 = .ok (.ldc 41, 2) := by decide +kernel
theorem dX5_lend_19 : decode cX5_lend 19 = .ok (.invokevirtual 65, 3) := by decide +kernel
theorem dX5_lend_22 : decode cX5_lend 22 = .ok (.ireturn, 1) := by decide +kernel
theorem dX5_lend_23 : decode cX5_lend 23 = .ok (.aload_n 0, 1) := by decide +kernel
theorem dX5_lend_24 : decode cX5_lend 24 = .ok (.iload_n 1, 1) := by decide +kernel
theorem dX5_lend_25 : decode cX5_lend 25 = .ok (.iconst 1, 1) := by decide +kernel
theorem dX5_lend_26 : decode cX5_lend 26 = .ok (.invokevirtual 83, 3) := by decide +kernel
theorem dX5_lend_29 : decode cX5_lend 29 = .ok (.aload_n 0, 1) := by decide +kernel
theorem dX5_lend_30 : decode cX5_lend 30 = .ok (.iload_n 2, 1) := by decide +kernel
theorem dX5_lend_31 : decode cX5_lend 31 = .ok (.iconst 1, 1) := by decide +kernel
theorem dX5_lend_32 : decode cX5_lend 32 = .ok (.invokevirtual 83, 3) := by decide +kernel
theorem dX5_lend_35 : decode cX5_lend 35 = .ok (.if_icmp .eq 10, 3) := by decide +kernel
theorem dX5_lend_38 : decode cX5_lend 38 = .ok (.aload_n 0, 1) := by decide +kernel
theorem dX5_lend_39 : decode cX5_lend 39 = .ok (.ldc 136, 2) := by decide +kernel
theorem dX5_lend_41 : decode cX5_lend 41 = .ok (.invokevirtual 65, 3) := by decide +kernel
theorem dX5_lend_44 : decode cX5_lend 44 = .ok (.ireturn, 1) := by decide +kernel
theorem dX5_lend_45 : decode cX5_lend 45 = .ok (.aload_n 0, 1) := by decide +kernel
theorem dX5_lend_46 : decode cX5_lend 46 = .ok (.iload_n 1, 1) := by decide +kernel
theorem dX5_lend_47 : decode cX5_lend 47 = .ok (.iconst 2, 1) := by decide +kernel
theorem dX5_lend_48 : decode cX5_lend 48 = .ok (.invokevirtual 83, 3) := by decide +kernel
theorem dX5_lend_51 : decode cX5_lend 51 = .ok (.iload_n 3, 1) := by decide +kernel
theorem dX5_lend_52 : decode cX5_lend 52 = .ok (.ishr, 1) := by decide +kernel
theorem dX5_lend_53 : decode cX5_lend 53 = .ok (.iconst 1, 1) := by decide +kernel
theorem dX5_lend_54 : decode cX5_lend 54 = .ok (.iand, 1) := by decide +kernel
theorem dX5_lend_55 : decode cX5_lend 55 = .ok (.ifCond .eq 17, 3) := by decide +kernel
theorem dX5_lend_58 : decode cX5_lend 58 = .ok (.aload_n 0, 1) := by decide +kernel
theorem dX5_lend_59 : decode cX5_lend 59 = .ok (.iload_n 2, 1) := by decide +kernel
theorem dX5_lend_60 : decode cX5_lend 60 = .ok (.iconst 2, 1) := by decide +kernel
theorem dX5_lend_61 : decode cX5_lend 61 = .ok (.invokevirtual 83, 3) := by decide +kernel
theorem dX5_lend_64 : decode cX5_lend 64 = .ok (.iload_n 3, 1) := by decide +kernel
theorem dX5_lend_65 : decode cX5_lend 65 = .ok (.ishr, 1) := by decide +kernel
theorem dX5_lend_66 : decode cX5_lend 66 = .ok (.iconst 1, 1) := by decide +kernel
theorem dX5_lend_67 : decode cX5_lend 67 = .ok (.iand, 1) := by decide +kernel
theorem dX5_lend_68 : decode cX5_lend 68 = .ok (.iconst 1, 1) := by decide +kernel
theorem dX5_lend_69 : decode cX5_lend 69 = .ok (.if_icmp .ne 10, 3) := by decide +kernel
theorem dX5_lend_72 : decode cX5_lend 72 = .ok (.aload_n 0, 1) := by decide +kernel
theorem dX5_lend_73 : decode cX5_lend 73 = .ok (.ldc 137, 2) := by decide +kernel
theorem dX5_lend_75 : decode cX5_lend 75 = .ok (.invokevirtual 65, 3) := by decide +kernel
theorem dX5_lend_78 : decode cX5_lend 78 = .ok (.ireturn, 1) := by decide +kernel
theorem dX5_lend_79 : decode cX5_lend 79 = .ok (.aload_n 0, 1) := by decide +kernel
theorem dX5_lend_80 : decode cX5_lend 80 = .ok (.iload_n 1, 1) := by decide +kernel
theorem dX5_lend_81 : decode cX5_lend 81 = .ok (.iload_n 2, 1) := by decide +kernel
theorem dX5_lend_82 : decode cX5_lend 82 = .ok (.iload_n 3, 1) := by decide +kernel
theorem dX5_lend_83 : decode cX5_lend 83 = .ok (.invokevirtual 138, 3) := by decide +kernel
theorem dX5_lend_86 : decode cX5_lend 86 = .ok (.iconst 1, 1) := by decide +kernel
theorem dX5_lend_87 : decode cX5_lend 87 = .ok (.ireturn, 1) := by decide +kernel
def finX5_lend (N : Ml) : Int32 × Mi → Option Value × Mi × Ml := fun b => (some (Value.int b.1), b.2, N)
noncomputable def fX5_lend_16   (M : Mi) : Option (Int32 × Mi) := (Option.bind (fX5_finds M (-1000000001)) (fun a2 => (some (a2.1, (a2.2)))))
theorem bX5_lend_16 {Z : Zt} {E : Ec} {N : Ml} (C : Ok 2 Z E cX5_lend 4 RX5 (some .int) 3)    (M : Mi)  : GT Z E 4 (finX5_lend N) 16 [(0, .ref (zA Z 6 0))] [] M N (fX5_lend_16 M) := by
  unfold fX5_lend_16
  refine r_aload_n C dX5_lend_16 0 0 rfl rfl ?_
  refine r_ldc (v := (-1000000001)) C dX5_lend_17 wd_859 ?_
  refine r_bind (fun a2 ha2 => ?_)
  refine r_callV (rest := []) (st2 := [.int a2.1]) C (mX5_finds (eL E) C.z M N (-1000000001) a2 ha2) lk_X5_65 (rvM C) (by decide) rfl rfl (Nat.le_of_ble_eq_true rfl) dX5_lend_19 rfl ?_
  exact r_iret C dX5_lend_22 rfl
noncomputable def fX5_lend_72   (M : Mi) : Option (Int32 × Mi) := (Option.bind (fX5_finds M (-1000000004)) (fun a9 => (some (a9.1, (a9.2)))))
theorem bX5_lend_72 {Z : Zt} {E : Ec} {N : Ml} (C : Ok 2 Z E cX5_lend 4 RX5 (some .int) 3)    (M : Mi)  : GT Z E 4 (finX5_lend N) 72 [(0, .ref (zA Z 6 0))] [] M N (fX5_lend_72 M) := by
  unfold fX5_lend_72
  refine r_aload_n C dX5_lend_72 0 0 rfl rfl ?_
  refine r_ldc (v := (-1000000004)) C dX5_lend_73 wd_981 ?_
  refine r_bind (fun a9 ha9 => ?_)
  refine r_callV (rest := []) (st2 := [.int a9.1]) C (mX5_finds (eL E) C.z M N (-1000000004) a9 ha9) lk_X5_65 (rvM C) (by decide) rfl rfl (Nat.le_of_ble_eq_true rfl) dX5_lend_75 rfl ?_
  exact r_iret C dX5_lend_78 rfl
noncomputable def fX5_lend   (M : Mi) (x1 : Int32) (x2 : Int32) (x3 : Int32) : Option (Int32 × Mi) := (if (fX5_areTwo (M 0) x1 x2) = 0 then (fX5_lend_16 M) else (if (fX5_isSubject x3) = 0 then (fX5_lend_16 M) else (Option.bind (fX5_its (M 0) x1 1) (fun a4 => (Option.bind (fX5_its (M 0) x2 1) (fun a5 => (if a4 = a5 then (Option.bind (fX5_its (M 0) x1 2) (fun a7 => (if ((a7 >>> (x3 &&& 31)) &&& 1) = 0 then (fX5_lend_72 M) else (Option.bind (fX5_its (M 0) x2 2) (fun a10 => (if ((a10 >>> (x3 &&& 31)) &&& 1) = 1 then (fX5_lend_72 M) else (Option.bind (fX5_lends (M 0) x1 x2 x3) (fun a12 => (some (1, (sR M 0 a12))))))))))) else (Option.bind (fX5_finds M (-1000000005)) (fun a13 => (some (a13.1, (a13.2))))))))))))
theorem bX5_lend {Z : Zt} {E : Ec} {N : Ml} (C : Ok 2 Z E cX5_lend 4 RX5 (some .int) 3)    (M : Mi) (x1 : Int32) (x2 : Int32) (x3 : Int32)  : GT Z E 4 (finX5_lend N) 0 [(0, .ref (zA Z 6 0)), (1, .int x1), (2, .int x2), (3, .int x3)] [] M N (fX5_lend M x1 x2 x3) := by
  unfold fX5_lend
  refine r_aload_n C dX5_lend_0 0 0 rfl rfl ?_
  refine r_iload_n C dX5_lend_1 1 1 rfl rfl ?_
  refine r_iload_n C dX5_lend_2 2 2 rfl rfl ?_
  refine r_callV (rest := []) (st2 := [.int (fX5_areTwo (M 0) x1 x2)]) C (mX5_areTwo (eL E) C.z M _ (M 0) x1 x2).selfR lk_X5_129 (rvM C) (by decide) rfl rfl (Nat.le_of_ble_eq_true rfl) dX5_lend_3 rfl ?_
  refine r_if_eq (tgt := 16) C dX5_lend_6 (by decide) (fun c1 => ?_) (fun c1 => ?_)
  · refine r_lv [0] (lv' := [(0, .ref (zA Z 6 0))]) rfl ?_
    exact bX5_lend_16 C M
  · refine r_iload_n C dX5_lend_9 3 3 rfl rfl ?_
    refine r_callS (rest := []) (st2 := [.int (fX5_isSubject x3)]) C (mX5_isSubject (eL E) C.z _ _ x3) lk_X5_133 (by decide) rfl rfl (Nat.le_of_ble_eq_true rfl) dX5_lend_10 rfl ?_
    refine r_if_ne (tgt := 23) C dX5_lend_13 (by decide) (fun c3 => ?_) (fun c3 => ?_)
    · refine r_aload_n C dX5_lend_23 0 0 rfl rfl ?_
      refine r_iload_n C dX5_lend_24 1 1 rfl rfl ?_
      refine r_iconst (v := 1) C dX5_lend_25 (by decide) ?_
      refine r_bind (fun a4 ha4 => ?_)
      refine r_callV (rest := []) (st2 := [.int a4]) C (mX5_its (eL E) C.z M _ (M 0) x1 1 a4 ha4).selfR lk_X5_83 (rvM C) (by decide) rfl rfl (Nat.le_of_ble_eq_true rfl) dX5_lend_26 rfl ?_
      refine r_aload_n C dX5_lend_29 0 0 rfl rfl ?_
      refine r_iload_n C dX5_lend_30 2 2 rfl rfl ?_
      refine r_iconst (v := 1) C dX5_lend_31 (by decide) ?_
      refine r_bind (fun a5 ha5 => ?_)
      refine r_callV (rest := [.int a4]) (st2 := [.int a5, .int a4]) C (mX5_its (eL E) C.z M _ (M 0) x2 1 a5 ha5).selfR lk_X5_83 (rvM C) (by decide) rfl rfl (Nat.le_of_ble_eq_true rfl) dX5_lend_32 rfl ?_
      refine r_ic_eq (tgt := 45) C dX5_lend_35 (by decide) (fun c6 => ?_) (fun c6 => ?_)
      · refine r_aload_n C dX5_lend_45 0 0 rfl rfl ?_
        refine r_iload_n C dX5_lend_46 1 1 rfl rfl ?_
        refine r_iconst (v := 2) C dX5_lend_47 (by decide) ?_
        refine r_bind (fun a7 ha7 => ?_)
        refine r_callV (rest := []) (st2 := [.int a7]) C (mX5_its (eL E) C.z M _ (M 0) x1 2 a7 ha7).selfR lk_X5_83 (rvM C) (by decide) rfl rfl (Nat.le_of_ble_eq_true rfl) dX5_lend_48 rfl ?_
        refine r_iload_n C dX5_lend_51 3 3 rfl rfl ?_
        refine r_ishr C dX5_lend_52 ?_
        refine r_iconst (v := 1) C dX5_lend_53 (by decide) ?_
        refine r_iand C dX5_lend_54 ?_
        refine r_if_eq (tgt := 72) C dX5_lend_55 (by decide) (fun c8 => ?_) (fun c8 => ?_)
        · refine r_lv [0] (lv' := [(0, .ref (zA Z 6 0))]) rfl ?_
          exact bX5_lend_72 C M
        · refine r_aload_n C dX5_lend_58 0 0 rfl rfl ?_
          refine r_iload_n C dX5_lend_59 2 2 rfl rfl ?_
          refine r_iconst (v := 2) C dX5_lend_60 (by decide) ?_
          refine r_bind (fun a10 ha10 => ?_)
          refine r_callV (rest := []) (st2 := [.int a10]) C (mX5_its (eL E) C.z M _ (M 0) x2 2 a10 ha10).selfR lk_X5_83 (rvM C) (by decide) rfl rfl (Nat.le_of_ble_eq_true rfl) dX5_lend_61 rfl ?_
          refine r_iload_n C dX5_lend_64 3 3 rfl rfl ?_
          refine r_ishr C dX5_lend_65 ?_
          refine r_iconst (v := 1) C dX5_lend_66 (by decide) ?_
          refine r_iand C dX5_lend_67 ?_
          refine r_iconst (v := 1) C dX5_lend_68 (by decide) ?_
          refine r_ic_ne (tgt := 79) C dX5_lend_69 (by decide) (fun c11 => ?_) (fun c11 => ?_)
          · refine r_aload_n C dX5_lend_79 0 0 rfl rfl ?_
            refine r_iload_n C dX5_lend_80 1 1 rfl rfl ?_
            refine r_iload_n C dX5_lend_81 2 2 rfl rfl ?_
            refine r_iload_n C dX5_lend_82 3 3 rfl rfl ?_
            refine r_bind (fun a12 ha12 => ?_)
            refine r_callV (rest := []) (st2 := []) C (mX5_lends (eL E) C.z M _ (M 0) x1 x2 x3 a12 ha12).selfW lk_X5_138 (rvM C) (by decide) rfl rfl (Nat.le_of_ble_eq_true rfl) dX5_lend_83 rfl ?_
            refine r_iconst (v := 1) C dX5_lend_86 (by decide) ?_
            exact r_iret C dX5_lend_87 rfl
          · refine r_lv [0] (lv' := [(0, .ref (zA Z 6 0))]) rfl ?_
            exact bX5_lend_72 C M
      · refine r_aload_n C dX5_lend_38 0 0 rfl rfl ?_
        refine r_ldc (v := (-1000000005)) C dX5_lend_39 wd_980 ?_
        refine r_bind (fun a13 ha13 => ?_)
        refine r_callV (rest := []) (st2 := [.int a13.1]) C (mX5_finds (eL E) C.z M N (-1000000005) a13 ha13) lk_X5_65 (rvM C) (by decide) rfl rfl (Nat.le_of_ble_eq_true rfl) dX5_lend_41 rfl ?_
        exact r_iret C dX5_lend_44 rfl
    · refine r_lv [0] (lv' := [(0, .ref (zA Z 6 0))]) rfl ?_
      exact bX5_lend_16 C M
theorem mX5_lend (l : Launch) {Z : Zt} (hZ : Zok 2 Z) (M : Mi) (N : Ml) (x1 : Int32) (x2 : Int32) (x3 : Int32) (b : Int32 × Mi) (hb : fX5_lend M x1 x2 x3 = some b) : Ct 2 Z l yX5_lend cX5_lend 4 (some .int) 3 [.ref (zA Z 6 0), .int x1, .int x2, .int x3] M N (some (Value.int b.1), b.2, N) :=
  metG (fin := (finX5_lend N)) (by decide) (Nat.le_of_ble_eq_true rfl) (fun E _ C => bX5_lend C M x1 x2 x3) hb
theorem dX5_nearer_0 : decode cX5_nearer 0 = .ok (.iload_n 1, 1) := by decide +kernel
theorem dX5_nearer_1 : decode cX5_nearer 1 = .ok (.bipush 6, 2) := by decide +kernel
theorem dX5_nearer_3 : decode cX5_nearer 3 = .ok (.idiv, 1) := by decide +kernel
theorem dX5_nearer_4 : decode cX5_nearer 4 = .ok (.iload_n 2, 1) := by decide +kernel
theorem dX5_nearer_5 : decode cX5_nearer 5 = .ok (.bipush 6, 2) := by decide +kernel
theorem dX5_nearer_7 : decode cX5_nearer 7 = .ok (.idiv, 1) := by decide +kernel
theorem dX5_nearer_8 : decode cX5_nearer 8 = .ok (.if_icmp .ge 10, 3) := by decide +kernel
theorem dX5_nearer_11 : decode cX5_nearer 11 = .ok (.iload_n 1, 1) := by decide +kernel
theorem dX5_nearer_12 : decode cX5_nearer 12 = .ok (.bipush 6, 2) := by decide +kernel
theorem dX5_nearer_14 : decode cX5_nearer 14 = .ok (.iadd, 1) := by decide +kernel
theorem dX5_nearer_15 : decode cX5_nearer 15 = .ok (.goto 7, 3) := by decide +kernel
theorem dX5_nearer_18 : decode cX5_nearer 18 = .ok (.iload_n 1, 1) := by decide +kernel
theorem dX5_nearer_19 : decode cX5_nearer 19 = .ok (.bipush 6, 2) := by decide +kernel
theorem dX5_nearer_21 : decode cX5_nearer 21 = .ok (.isub, 1) := by decide +kernel
theorem dX5_nearer_22 : decode cX5_nearer 22 = .ok (.istore_n 3, 1) := by decide +kernel
theorem dX5_nearer_23 : decode cX5_nearer 23 = .ok (.iload_n 1, 1) := by decide +kernel
theorem dX5_nearer_24 : decode cX5_nearer 24 = .ok (.bipush 6, 2) := by decide +kernel
theorem dX5_nearer_26 : decode cX5_nearer 26 = .ok (.idiv, 1) := by decide +kernel
theorem dX5_nearer_27 : decode cX5_nearer 27 = .ok (.iload_n 2, 1) := by decide +kernel
theorem dX5_nearer_28 : decode cX5_nearer 28 = .ok (.bipush 6, 2) := by decide +kernel
theorem dX5_nearer_30 : decode cX5_nearer 30 = .ok (.idiv, 1) := by decide +kernel
theorem dX5_nearer_31 : decode cX5_nearer 31 = .ok (.if_icmp .eq 13, 3) := by decide +kernel
theorem dX5_nearer_34 : decode cX5_nearer 34 = .ok (.aload_n 0, 1) := by decide +kernel
theorem dX5_nearer_35 : decode cX5_nearer 35 = .ok (.iload_n 3, 1) := by decide +kernel
theorem dX5_nearer_36 : decode cX5_nearer 36 = .ok (.invokevirtual 69, 3) := by decide +kernel
theorem dX5_nearer_39 : decode cX5_nearer 39 = .ok (.ifCond .ne 5, 3) := by decide +kernel
theorem dX5_nearer_42 : decode cX5_nearer 42 = .ok (.iload_n 3, 1) := by decide +kernel
theorem dX5_nearer_43 : decode cX5_nearer 43 = .ok (.ireturn, 1) := by decide +kernel
theorem dX5_nearer_44 : decode cX5_nearer 44 = .ok (.iload_n 1, 1) := by decide +kernel
theorem dX5_nearer_45 : decode cX5_nearer 45 = .ok (.bipush 6, 2) := by decide +kernel
theorem dX5_nearer_47 : decode cX5_nearer 47 = .ok (.irem, 1) := by decide +kernel
theorem dX5_nearer_48 : decode cX5_nearer 48 = .ok (.iload_n 2, 1) := by decide +kernel
theorem dX5_nearer_49 : decode cX5_nearer 49 = .ok (.bipush 6, 2) := by decide +kernel
theorem dX5_nearer_51 : decode cX5_nearer 51 = .ok (.irem, 1) := by decide +kernel
theorem dX5_nearer_52 : decode cX5_nearer 52 = .ok (.if_icmp .ge 9, 3) := by decide +kernel
theorem dX5_nearer_55 : decode cX5_nearer 55 = .ok (.iload_n 1, 1) := by decide +kernel
theorem dX5_nearer_56 : decode cX5_nearer 56 = .ok (.iconst 1, 1) := by decide +kernel
theorem dX5_nearer_57 : decode cX5_nearer 57 = .ok (.iadd, 1) := by decide +kernel
theorem dX5_nearer_58 : decode cX5_nearer 58 = .ok (.goto 6, 3) := by decide +kernel
theorem dX5_nearer_61 : decode cX5_nearer 61 = .ok (.iload_n 1, 1) := by decide +kernel
theorem dX5_nearer_62 : decode cX5_nearer 62 = .ok (.iconst 1, 1) := by decide +kernel
theorem dX5_nearer_63 : decode cX5_nearer 63 = .ok (.isub, 1) := by decide +kernel
theorem dX5_nearer_64 : decode cX5_nearer 64 = .ok (.istore 4, 2) := by decide +kernel
theorem dX5_nearer_66 : decode cX5_nearer 66 = .ok (.iload_n 1, 1) := by decide +kernel
theorem dX5_nearer_67 : decode cX5_nearer 67 = .ok (.bipush 6, 2) := by decide +kernel
theorem dX5_nearer_69 : decode cX5_nearer 69 = .ok (.irem, 1) := by decide +kernel
theorem dX5_nearer_70 : decode cX5_nearer 70 = .ok (.iload_n 2, 1) := by decide +kernel
theorem dX5_nearer_71 : decode cX5_nearer 71 = .ok (.bipush 6, 2) := by decide +kernel
theorem dX5_nearer_73 : decode cX5_nearer 73 = .ok (.irem, 1) := by decide +kernel
theorem dX5_nearer_74 : decode cX5_nearer 74 = .ok (.if_icmp .eq 17, 3) := by decide +kernel
theorem dX5_nearer_77 : decode cX5_nearer 77 = .ok (.aload_n 0, 1) := by decide +kernel
theorem dX5_nearer_78 : decode cX5_nearer 78 = .ok (.iload 4, 2) := by decide +kernel
theorem dX5_nearer_80 : decode cX5_nearer 80 = .ok (.invokevirtual 69, 3) := by decide +kernel
theorem dX5_nearer_83 : decode cX5_nearer 83 = .ok (.ifCond .ne 8, 3) := by decide +kernel
theorem dX5_nearer_86 : decode cX5_nearer 86 = .ok (.iload 4, 2) := by decide +kernel
theorem dX5_nearer_88 : decode cX5_nearer 88 = .ok (.goto 4, 3) := by decide +kernel
theorem dX5_nearer_91 : decode cX5_nearer 91 = .ok (.iload_n 1, 1) := by decide +kernel
theorem dX5_nearer_92 : decode cX5_nearer 92 = .ok (.ireturn, 1) := by decide +kernel
def finX5_nearer (M0 : Mi) (σ : Nat → Int32) (N : Ml) : Int32 → Option Value × Mi × Ml := fun b => (some (Value.int b), sR M0 0 σ, N)
noncomputable def fX5_nearer_64 (σ : Nat → Int32)  (x1 : Int32) (x2 : Int32) (s0 : Int32) : Int32 := (if (x1 - x1 / 6 * 6) = (x2 - x2 / 6 * 6) then x1 else (if (fX5_isFenced σ s0) = 0 then s0 else x1))
theorem bX5_nearer_64 {Z : Zt} {E : Ec} {M0 : Mi} {σ : Nat → Int32} {N : Ml} (C : Ok 2 Z E cX5_nearer 5 RX5 (some .int) 1)    (x1 : Int32) (x2 : Int32) (s0 : Int32)  : GT Z E 5 (finX5_nearer M0 σ N) 64 [(0, .ref (zA Z 6 0)), (1, .int x1), (2, .int x2)] [.int s0] (sR M0 0 σ) N (some (fX5_nearer_64 σ x1 x2 s0)) := by
  unfold fX5_nearer_64
  refine r_istore (lv' := [(4, .int s0), (0, .ref (zA Z 6 0)), (1, .int x1), (2, .int x2)]) C dX5_nearer_64 (by decide) rfl ?_
  refine r_iload_n C dX5_nearer_66 1 2 rfl rfl ?_
  refine r_bipush (v := 6) C dX5_nearer_67 (by decide) ?_
  refine r_irem C dX5_nearer_69 (by decide) ?_
  refine r_iload_n C dX5_nearer_70 2 3 rfl rfl ?_
  refine r_bipush (v := 6) C dX5_nearer_71 (by decide) ?_
  refine r_irem C dX5_nearer_73 (by decide) ?_
  refine r_st ?_
  refine r_ic_eq (tgt := 91) C dX5_nearer_74 (by decide) (fun c6 => ?_) (fun c6 => ?_)
  · refine r_iload_n C dX5_nearer_91 1 2 rfl rfl ?_
    exact r_iret C dX5_nearer_92 rfl
  · refine r_aload_n C dX5_nearer_77 0 1 rfl rfl ?_
    refine r_iload C dX5_nearer_78 0 rfl ?_
    refine r_callV (rest := []) (st2 := [.int (fX5_isFenced σ s0)]) C (mX5_isFenced (eL E) C.z _ _ σ s0) lk_X5_69 (rvM C) (by decide) rfl rfl (Nat.le_of_ble_eq_true rfl) dX5_nearer_80 rfl ?_
    refine r_st ?_
    refine r_if_ne (tgt := 91) C dX5_nearer_83 (by decide) (fun c7 => ?_) (fun c7 => ?_)
    · refine r_iload_n C dX5_nearer_91 1 2 rfl rfl ?_
      exact r_iret C dX5_nearer_92 rfl
    · refine r_iload C dX5_nearer_86 0 rfl ?_
      refine r_goto (tgt := 92) C dX5_nearer_88 (by decide) ?_
      exact r_iret C dX5_nearer_92 rfl
noncomputable def fX5_nearer_44 (σ : Nat → Int32)  (x1 : Int32) (x2 : Int32) : Int32 := (fX5_nearer_64 σ x1 x2 (if (x2 - x2 / 6 * 6) ≤ (x1 - x1 / 6 * 6) then (x1 - 1) else (x1 + 1) : Int32))
theorem bX5_nearer_44 {Z : Zt} {E : Ec} {M0 : Mi} {σ : Nat → Int32} {N : Ml} (C : Ok 2 Z E cX5_nearer 5 RX5 (some .int) 1)    (x1 : Int32) (x2 : Int32)  : GT Z E 5 (finX5_nearer M0 σ N) 44 [(0, .ref (zA Z 6 0)), (1, .int x1), (2, .int x2)] [] (sR M0 0 σ) N (some (fX5_nearer_44 σ x1 x2)) := by
  unfold fX5_nearer_44
  refine r_iload_n C dX5_nearer_44 1 1 rfl rfl ?_
  refine r_bipush (v := 6) C dX5_nearer_45 (by decide) ?_
  refine r_irem C dX5_nearer_47 (by decide) ?_
  refine r_iload_n C dX5_nearer_48 2 2 rfl rfl ?_
  refine r_bipush (v := 6) C dX5_nearer_49 (by decide) ?_
  refine r_irem C dX5_nearer_51 (by decide) ?_
  refine r_sel (tj := 64) (sj := [.int (if (x2 - x2 / 6 * 6) ≤ (x1 - x1 / 6 * 6) then (x1 - 1) else (x1 + 1) : Int32)]) ?_ (fun k5 => ?_)
  · exact bX5_nearer_64 C x1 x2 (if (x2 - x2 / 6 * 6) ≤ (x1 - x1 / 6 * 6) then (x1 - 1) else (x1 + 1) : Int32)
  · refine r_same (P := (x2 - x2 / 6 * 6) ≤ (x1 - x1 / 6 * 6)) ?_
    refine r_ic_ge (tgt := 61) C dX5_nearer_52 (by decide) (fun c4 => ?_) (fun c4 => ?_)
    · refine r_iload_n C dX5_nearer_61 1 1 rfl rfl ?_
      refine r_iconst (v := 1) C dX5_nearer_62 (by decide) ?_
      refine r_isub C dX5_nearer_63 ?_
      exact r_stk (if_pos c4) k5
    · refine r_iload_n C dX5_nearer_55 1 1 rfl rfl ?_
      refine r_iconst (v := 1) C dX5_nearer_56 (by decide) ?_
      refine r_iadd C dX5_nearer_57 ?_
      refine r_goto (tgt := 64) C dX5_nearer_58 (by decide) ?_
      exact r_stk (if_neg c4) k5
noncomputable def fX5_nearer_22 (σ : Nat → Int32)  (x1 : Int32) (x2 : Int32) (s0 : Int32) : Int32 := (if (x1 / 6) = (x2 / 6) then (fX5_nearer_44 σ x1 x2) else (if (fX5_isFenced σ s0) = 0 then s0 else (fX5_nearer_44 σ x1 x2)))
theorem bX5_nearer_22 {Z : Zt} {E : Ec} {M0 : Mi} {σ : Nat → Int32} {N : Ml} (C : Ok 2 Z E cX5_nearer 5 RX5 (some .int) 1)    (x1 : Int32) (x2 : Int32) (s0 : Int32)  : GT Z E 5 (finX5_nearer M0 σ N) 22 [(0, .ref (zA Z 6 0)), (1, .int x1), (2, .int x2)] [.int s0] (sR M0 0 σ) N (some (fX5_nearer_22 σ x1 x2 s0)) := by
  unfold fX5_nearer_22
  refine r_istore_n (lv' := [(3, .int s0), (0, .ref (zA Z 6 0)), (1, .int x1), (2, .int x2)]) C dX5_nearer_22 3 rfl (by decide) rfl ?_
  refine r_iload_n C dX5_nearer_23 1 2 rfl rfl ?_
  refine r_bipush (v := 6) C dX5_nearer_24 (by decide) ?_
  refine r_idiv C dX5_nearer_26 (by decide) ?_
  refine r_iload_n C dX5_nearer_27 2 3 rfl rfl ?_
  refine r_bipush (v := 6) C dX5_nearer_28 (by decide) ?_
  refine r_idiv C dX5_nearer_30 (by decide) ?_
  refine r_st ?_
  refine r_ic_eq (tgt := 44) C dX5_nearer_31 (by decide) (fun c3 => ?_) (fun c3 => ?_)
  · refine r_lv [1, 2, 3] (lv' := [(0, .ref (zA Z 6 0)), (1, .int x1), (2, .int x2)]) rfl ?_
    exact bX5_nearer_44 C x1 x2
  · refine r_aload_n C dX5_nearer_34 0 1 rfl rfl ?_
    refine r_iload_n C dX5_nearer_35 3 0 rfl rfl ?_
    refine r_callV (rest := []) (st2 := [.int (fX5_isFenced σ s0)]) C (mX5_isFenced (eL E) C.z _ _ σ s0) lk_X5_69 (rvM C) (by decide) rfl rfl (Nat.le_of_ble_eq_true rfl) dX5_nearer_36 rfl ?_
    refine r_st ?_
    refine r_if_ne (tgt := 44) C dX5_nearer_39 (by decide) (fun c8 => ?_) (fun c8 => ?_)
    · refine r_lv [1, 2, 3] (lv' := [(0, .ref (zA Z 6 0)), (1, .int x1), (2, .int x2)]) rfl ?_
      exact bX5_nearer_44 C x1 x2
    · refine r_iload_n C dX5_nearer_42 3 0 rfl rfl ?_
      exact r_iret C dX5_nearer_43 rfl
noncomputable def fX5_nearer (σ : Nat → Int32)  (x1 : Int32) (x2 : Int32) : Int32 := (fX5_nearer_22 σ x1 x2 (if (x2 / 6) ≤ (x1 / 6) then (x1 - 6) else (x1 + 6) : Int32))
theorem bX5_nearer {Z : Zt} {E : Ec} {M0 : Mi} {σ : Nat → Int32} {N : Ml} (C : Ok 2 Z E cX5_nearer 5 RX5 (some .int) 1)    (x1 : Int32) (x2 : Int32)  : GT Z E 5 (finX5_nearer M0 σ N) 0 [(0, .ref (zA Z 6 0)), (1, .int x1), (2, .int x2)] [] (sR M0 0 σ) N (some (fX5_nearer σ x1 x2)) := by
  unfold fX5_nearer
  refine r_iload_n C dX5_nearer_0 1 1 rfl rfl ?_
  refine r_bipush (v := 6) C dX5_nearer_1 (by decide) ?_
  refine r_idiv C dX5_nearer_3 (by decide) ?_
  refine r_iload_n C dX5_nearer_4 2 2 rfl rfl ?_
  refine r_bipush (v := 6) C dX5_nearer_5 (by decide) ?_
  refine r_idiv C dX5_nearer_7 (by decide) ?_
  refine r_sel (tj := 22) (sj := [.int (if (x2 / 6) ≤ (x1 / 6) then (x1 - 6) else (x1 + 6) : Int32)]) ?_ (fun k2 => ?_)
  · exact bX5_nearer_22 C x1 x2 (if (x2 / 6) ≤ (x1 / 6) then (x1 - 6) else (x1 + 6) : Int32)
  · refine r_same (P := (x2 / 6) ≤ (x1 / 6)) ?_
    refine r_ic_ge (tgt := 18) C dX5_nearer_8 (by decide) (fun c1 => ?_) (fun c1 => ?_)
    · refine r_iload_n C dX5_nearer_18 1 1 rfl rfl ?_
      refine r_bipush (v := 6) C dX5_nearer_19 (by decide) ?_
      refine r_isub C dX5_nearer_21 ?_
      exact r_stk (if_pos c1) k2
    · refine r_iload_n C dX5_nearer_11 1 1 rfl rfl ?_
      refine r_bipush (v := 6) C dX5_nearer_12 (by decide) ?_
      refine r_iadd C dX5_nearer_14 ?_
      refine r_goto (tgt := 22) C dX5_nearer_15 (by decide) ?_
      exact r_stk (if_neg c1) k2
theorem mX5_nearer (l : Launch) {Z : Zt} (hZ : Zok 2 Z) (M0 : Mi) (N : Ml) (σ : Nat → Int32) (x1 : Int32) (x2 : Int32) : Ct 2 Z l yX5_nearer cX5_nearer 5 (some .int) 1 [.ref (zA Z 6 0), .int x1, .int x2] (sR M0 0 σ) N (some (Value.int (fX5_nearer σ x1 x2)), sR M0 0 σ, N) :=
  metG (fin := (finX5_nearer M0 σ N)) (by decide) (Nat.le_of_ble_eq_true rfl) (fun E _ C => bX5_nearer C x1 x2) rfl
theorem dX5_goes_0 : decode cX5_goes 0 = .ok (.aload_n 0, 1) := by decide +kernel
theorem dX5_goes_1 : decode cX5_goes 1 = .ok (.iload_n 1, 1) := by decide +kernel
theorem dX5_goes_2 : decode cX5_goes 2 = .ok (.invokevirtual 119, 3) := by decide +kernel
theorem dX5_goes_5 : decode cX5_goes 5 = .ok (.istore_n 2, 1) := by decide +kernel
theorem dX5_goes_6 : decode cX5_goes 6 = .ok (.aload_n 0, 1) := by decide +kernel
theorem dX5_goes_7 : decode cX5_goes 7 = .ok (.iload_n 1, 1) := by decide +kernel
theorem dX5_goes_8 : decode cX5_goes 8 = .ok (.invokevirtual 122, 3) := by decide +kernel
theorem dX5_goes_11 : decode cX5_goes 11 = .ok (.istore_n 3, 1) := by decide +kernel
theorem dX5_goes_12 : decode cX5_goes 12 = .ok (.iload_n 3, 1) := by decide +kernel
theorem dX5_goes_13 : decode cX5_goes 13 = .ok (.ifCond .le 30, 3) := by decide +kernel
theorem dX5_goes_16 : decode cX5_goes 16 = .ok (.aload_n 0, 1) := by decide +kernel
theorem dX5_goes_17 : decode cX5_goes 17 = .ok (.getfield 7, 3) := by decide +kernel
theorem dX5_goes_20 : decode cX5_goes 20 = .ok (.iload_n 1, 1) := by decide +kernel
theorem dX5_goes_21 : decode cX5_goes 21 = .ok (.iconst 1, 1) := by decide +kernel
theorem dX5_goes_22 : decode cX5_goes 22 = .ok (.invokestatic 58, 3) := by decide +kernel
theorem dX5_goes_25 : decode cX5_goes 25 = .ok (.aload_n 0, 1) := by decide +kernel
theorem dX5_goes_26 : decode cX5_goes 26 = .ok (.aload_n 0, 1) := by decide +kernel
theorem dX5_goes_27 : decode cX5_goes 27 = .ok (.iload_n 1, 1) := by decide +kernel
theorem dX5_goes_28 : decode cX5_goes 28 = .ok (.iconst 1, 1) := by decide +kernel
theorem dX5_goes_29 : decode cX5_goes 29 = .ok (.invokevirtual 83, 3) := by decide +kernel
theorem dX5_goes_32 : decode cX5_goes 32 = .ok (.iload_n 2, 1) := by decide +kernel
theorem dX5_goes_33 : decode cX5_goes 33 = .ok (.invokevirtual 142, 3) := by decide +kernel
theorem dX5_goes_36 : decode cX5_goes 36 = .ok (.iastore, 1) := by decide +kernel
theorem dX5_goes_37 : decode cX5_goes 37 = .ok (.iinc 3 (-1), 3) := by decide +kernel
theorem dX5_goes_40 : decode cX5_goes 40 = .ok (.goto (-28), 3) := by decide +kernel
theorem dX5_goes_43 : decode cX5_goes 43 = .ok (.return_, 1) := by decide +kernel
def finX5_goes (M0 : Mi) (N : Ml) : (Nat → Int32) → Option Value × Mi × Ml := fun b => (none, sR M0 0 (b), N)
noncomputable def fX5_goes_12   : Nat → (Nat → Int32) → Int32 → Int32 → Int32 → Option ((Nat → Int32))
  | 0 => fun _ _ _ _ => none
  | n + 1 => fun σ x1 x2 x3 => (if x3 ≤ 0 then (some σ) else (Option.bind (fX5_its σ x1 1) (fun a4 => (if inb (fX5_spotOf x1 1) 39 then ((fX5_goes_12 n) (upd σ (ix (fX5_spotOf x1 1)) (fX5_nearer σ a4 x2)) x1 x2 (x3 + (-1))) else none))))
theorem bX5_goes_12 {Z : Zt} {E : Ec} {M0 : Mi} {N : Ml} (C : Ok 2 Z E cX5_goes 4 RX5 none 3)    : ∀ (n : Nat) (σ : Nat → Int32) (x1 : Int32) (x2 : Int32) (x3 : Int32), GT Z E 4 (finX5_goes M0 N) 12 [(0, .ref (zA Z 6 0)), (1, .int x1), (2, .int x2), (3, .int x3)] [] (sR M0 0 σ) N (fX5_goes_12 n σ x1 x2 x3) := by
  intro n
  induction n with
  | zero => intro σ x1 x2 x3; exact r_none
  | succ n ih =>
    intro σ x1 x2 x3
    rw [fX5_goes_12]
    refine r_iload_n C dX5_goes_12 3 3 rfl rfl ?_
    refine r_if_le (tgt := 43) C dX5_goes_13 (by decide) (fun c3 => ?_) (fun c3 => ?_)
    · exact r_vret C dX5_goes_43 rfl
    · refine r_aload_n C dX5_goes_16 0 0 rfl rfl ?_
      refine gf_X5_7 C dX5_goes_17 ?_
      refine r_iload_n C dX5_goes_20 1 1 rfl rfl ?_
      refine r_iconst (v := 1) C dX5_goes_21 (by decide) ?_
      refine r_callS (rest := [.ref (zA Z 0 0)]) (st2 := [.int (fX5_spotOf x1 1), .ref (zA Z 0 0)]) C (mX5_spotOf (eL E) C.z _ _ x1 1) lk_X5_58 (by decide) rfl rfl (Nat.le_of_ble_eq_true rfl) dX5_goes_22 rfl ?_
      refine r_aload_n C dX5_goes_25 0 0 rfl rfl ?_
      refine r_aload_n C dX5_goes_26 0 0 rfl rfl ?_
      refine r_iload_n C dX5_goes_27 1 1 rfl rfl ?_
      refine r_iconst (v := 1) C dX5_goes_28 (by decide) ?_
      refine r_bind (fun a4 ha4 => ?_)
      refine r_callV (rest := [.ref (zA Z 6 0), .int (fX5_spotOf x1 1), .ref (zA Z 0 0)]) (st2 := [.int a4, .ref (zA Z 6 0), .int (fX5_spotOf x1 1), .ref (zA Z 0 0)]) C (mX5_its (eL E) C.z _ _ σ x1 1 a4 ha4) lk_X5_83 (rvM C) (by decide) rfl rfl (Nat.le_of_ble_eq_true rfl) dX5_goes_29 rfl ?_
      refine r_iload_n C dX5_goes_32 2 2 rfl rfl ?_
      refine r_callV (rest := [.int (fX5_spotOf x1 1), .ref (zA Z 0 0)]) (st2 := [.int (fX5_nearer σ a4 x2), .int (fX5_spotOf x1 1), .ref (zA Z 0 0)]) C (mX5_nearer (eL E) C.z _ _ σ a4 x2) lk_X5_142 (rvM C) (by decide) rfl rfl (Nat.le_of_ble_eq_true rfl) dX5_goes_33 rfl ?_
      refine r_guard (fun h5 => ?_)
      refine ast_M (M' := (sR M0 0 (upd σ (ix (fX5_spotOf x1 1)) (fX5_nearer σ a4 x2)))) C mI_0 h5 (wM_sR _ _ _ _ _) dX5_goes_36 ?_
      refine r_iinc (v := (x3 + (-1))) (lv' := [(3, .int (x3 + (-1))), (0, .ref (zA Z 6 0)), (1, .int x1), (2, .int x2)]) C dX5_goes_37 3 rfl rfl (by decide) rfl ?_
      refine r_goto (tgt := 12) C dX5_goes_40 (by decide) ?_
      refine r_lv [1, 2, 3, 0] (lv' := [(0, .ref (zA Z 6 0)), (1, .int x1), (2, .int x2), (3, .int (x3 + (-1)))]) rfl ?_
      exact ih (upd σ (ix (fX5_spotOf x1 1)) (fX5_nearer σ a4 x2)) x1 x2 (x3 + (-1))
noncomputable def fX5_goes   (σ : Nat → Int32) (x1 : Int32) : Option ((Nat → Int32)) := (Option.bind (fX5_aimOf σ x1) (fun a1 => (Option.bind (fX5_paceOf σ x1) (fun a2 => (fX5_goes_12 fu σ x1 a1 a2)))))
theorem bX5_goes {Z : Zt} {E : Ec} {M0 : Mi} {N : Ml} (C : Ok 2 Z E cX5_goes 4 RX5 none 3)    (σ : Nat → Int32) (x1 : Int32)  : GT Z E 4 (finX5_goes M0 N) 0 [(0, .ref (zA Z 6 0)), (1, .int x1)] [] (sR M0 0 σ) N (fX5_goes σ x1) := by
  unfold fX5_goes
  refine r_aload_n C dX5_goes_0 0 0 rfl rfl ?_
  refine r_iload_n C dX5_goes_1 1 1 rfl rfl ?_
  refine r_bind (fun a1 ha1 => ?_)
  refine r_callV (rest := []) (st2 := [.int a1]) C (mX5_aimOf (eL E) C.z _ _ σ x1 a1 ha1) lk_X5_119 (rvM C) (by decide) rfl rfl (Nat.le_of_ble_eq_true rfl) dX5_goes_2 rfl ?_
  refine r_istore_n (lv' := [(2, .int a1), (0, .ref (zA Z 6 0)), (1, .int x1)]) C dX5_goes_5 2 rfl (by decide) rfl ?_
  refine r_aload_n C dX5_goes_6 0 1 rfl rfl ?_
  refine r_iload_n C dX5_goes_7 1 2 rfl rfl ?_
  refine r_bind (fun a2 ha2 => ?_)
  refine r_callV (rest := []) (st2 := [.int a2]) C (mX5_paceOf (eL E) C.z _ _ σ x1 a2 ha2) lk_X5_122 (rvM C) (by decide) rfl rfl (Nat.le_of_ble_eq_true rfl) dX5_goes_8 rfl ?_
  refine r_istore_n (lv' := [(3, .int a2), (2, .int a1), (0, .ref (zA Z 6 0)), (1, .int x1)]) C dX5_goes_11 3 rfl (by decide) rfl ?_
  refine r_lv [2, 3, 1, 0] (lv' := [(0, .ref (zA Z 6 0)), (1, .int x1), (2, .int a1), (3, .int a2)]) rfl ?_
  exact bX5_goes_12 C fu σ x1 a1 a2
theorem mX5_goes (l : Launch) {Z : Zt} (hZ : Zok 2 Z) (M0 : Mi) (N : Ml) (σ : Nat → Int32) (x1 : Int32) (b : (Nat → Int32)) (hb : fX5_goes σ x1 = some b) : Ct 2 Z l yX5_goes cX5_goes 4 none 3 [.ref (zA Z 6 0), .int x1] (sR M0 0 σ) N (none, sR M0 0 (b), N) :=
  metG (fin := (finX5_goes M0 N)) (by decide) (Nat.le_of_ble_eq_true rfl) (fun E _ C => bX5_goes C σ x1) hb
theorem dX5_meets_0 : decode cX5_meets 0 = .ok (.aload_n 0, 1) := by decide +kernel
theorem dX5_meets_1 : decode cX5_meets 1 = .ok (.iload_n 2, 1) := by decide +kernel
theorem dX5_meets_2 : decode cX5_meets 2 = .ok (.iconst 2, 1) := by decide +kernel
theorem dX5_meets_3 : decode cX5_meets 3 = .ok (.invokevirtual 83, 3) := by decide +kernel
theorem dX5_meets_6 : decode cX5_meets 6 = .ok (.aload_n 0, 1) := by decide +kernel
theorem dX5_meets_7 : decode cX5_meets 7 = .ok (.iload_n 1, 1) := by decide +kernel
theorem dX5_meets_8 : decode cX5_meets 8 = .ok (.iconst 2, 1) := by decide +kernel
theorem dX5_meets_9 : decode cX5_meets 9 = .ok (.invokevirtual 83, 3) := by decide +kernel
theorem dX5_meets_12 : decode cX5_meets 12 = .ok (.iconst (-1), 1) := by decide +kernel
theorem dX5_meets_13 : decode cX5_meets 13 = .ok (.ixor, 1) := by decide +kernel
theorem dX5_meets_14 : decode cX5_meets 14 = .ok (.iand, 1) := by decide +kernel
theorem dX5_meets_15 : decode cX5_meets 15 = .ok (.istore_n 3, 1) := by decide +kernel
theorem dX5_meets_16 : decode cX5_meets 16 = .ok (.aload_n 0, 1) := by decide +kernel
theorem dX5_meets_17 : decode cX5_meets 17 = .ok (.iload_n 1, 1) := by decide +kernel
theorem dX5_meets_18 : decode cX5_meets 18 = .ok (.iconst 1, 1) := by decide +kernel
theorem dX5_meets_19 : decode cX5_meets 19 = .ok (.invokevirtual 83, 3) := by decide +kernel
theorem dX5_meets_22 : decode cX5_meets 22 = .ok (.aload_n 0, 1) := by decide +kernel
theorem dX5_meets_23 : decode cX5_meets 23 = .ok (.iload_n 2, 1) := by decide +kernel
theorem dX5_meets_24 : decode cX5_meets 24 = .ok (.iconst 1, 1) := by decide +kernel
theorem dX5_meets_25 : decode cX5_meets 25 = .ok (.invokevirtual 83, 3) := by decide +kernel
theorem dX5_meets_28 : decode cX5_meets 28 = .ok (.if_icmp .ne 50, 3) := by decide +kernel
theorem dX5_meets_31 : decode cX5_meets 31 = .ok (.aload_n 0, 1) := by decide +kernel
theorem dX5_meets_32 : decode cX5_meets 32 = .ok (.iload_n 2, 1) := by decide +kernel
theorem dX5_meets_33 : decode cX5_meets 33 = .ok (.iconst 2, 1) := by decide +kernel
theorem dX5_meets_34 : decode cX5_meets 34 = .ok (.invokevirtual 83, 3) := by decide +kernel
theorem dX5_meets_37 : decode cX5_meets 37 = .ok (.invokestatic 145, 3) := by decide +kernel
theorem dX5_meets_40 : decode cX5_meets 40 = .ok (.aload_n 0, 1) := by decide +kernel
theorem dX5_meets_41 : decode cX5_meets 41 = .ok (.iload_n 1, 1) := by decide +kernel
theorem dX5_meets_42 : decode cX5_meets 42 = .ok (.iconst 2, 1) := by decide +kernel
theorem dX5_meets_43 : decode cX5_meets 43 = .ok (.invokevirtual 83, 3) := by decide +kernel
theorem dX5_meets_46 : decode cX5_meets 46 = .ok (.invokestatic 145, 3) := by decide +kernel
theorem dX5_meets_49 : decode cX5_meets 49 = .ok (.if_icmp .le 29, 3) := by decide +kernel
theorem dX5_meets_52 : decode cX5_meets 52 = .ok (.iconst 0, 1) := by decide +kernel
theorem dX5_meets_53 : decode cX5_meets 53 = .ok (.istore 4, 2) := by decide +kernel
theorem dX5_meets_55 : decode cX5_meets 55 = .ok (.iload_n 3, 1) := by decide +kernel
theorem dX5_meets_56 : decode cX5_meets 56 = .ok (.iload 4, 2) := by decide +kernel
theorem dX5_meets_58 : decode cX5_meets 58 = .ok (.ishr, 1) := by decide +kernel
theorem dX5_meets_59 : decode cX5_meets 59 = .ok (.iconst 1, 1) := by decide +kernel
theorem dX5_meets_60 : decode cX5_meets 60 = .ok (.iand, 1) := by decide +kernel
theorem dX5_meets_61 : decode cX5_meets 61 = .ok (.ifCond .ne 9, 3) := by decide +kernel
theorem dX5_meets_64 : decode cX5_meets 64 = .ok (.iinc 4 1, 3) := by decide +kernel
theorem dX5_meets_67 : decode cX5_meets 67 = .ok (.goto (-12), 3) := by decide +kernel
theorem dX5_meets_70 : decode cX5_meets 70 = .ok (.aload_n 0, 1) := by decide +kernel
theorem dX5_meets_71 : decode cX5_meets 71 = .ok (.iload_n 2, 1) := by decide +kernel
theorem dX5_meets_72 : decode cX5_meets 72 = .ok (.iload_n 1, 1) := by decide +kernel
theorem dX5_meets_73 : decode cX5_meets 73 = .ok (.iload 4, 2) := by decide +kernel
theorem dX5_meets_75 : decode cX5_meets 75 = .ok (.invokevirtual 138, 3) := by decide +kernel
theorem dX5_meets_78 : decode cX5_meets 78 = .ok (.return_, 1) := by decide +kernel
def finX5_meets (M0 : Mi) (N : Ml) : (Nat → Int32) → Option Value × Mi × Ml := fun b => (none, sR M0 0 (b), N)
noncomputable def fX5_meets_55   : Nat → (Nat → Int32) → Int32 → Int32 → Int32 → Int32 → Option ((Nat → Int32))
  | 0 => fun _ _ _ _ _ => none
  | n + 1 => fun σ x1 x2 x3 x4 => (if ((x3 >>> (x4 &&& 31)) &&& 1) = 0 then ((fX5_meets_55 n) σ x1 x2 x3 (x4 + 1)) else (Option.bind (fX5_lends σ x2 x1 x4) (fun a12 => (some a12))))
theorem bX5_meets_55 {Z : Zt} {E : Ec} {M0 : Mi} {N : Ml} (C : Ok 2 Z E cX5_meets 5 RX5 none 2)    : ∀ (n : Nat) (σ : Nat → Int32) (x1 : Int32) (x2 : Int32) (x3 : Int32) (x4 : Int32), GT Z E 5 (finX5_meets M0 N) 55 [(0, .ref (zA Z 6 0)), (1, .int x1), (2, .int x2), (3, .int x3), (4, .int x4)] [] (sR M0 0 σ) N (fX5_meets_55 n σ x1 x2 x3 x4) := by
  intro n
  induction n with
  | zero => intro σ x1 x2 x3 x4; exact r_none
  | succ n ih =>
    intro σ x1 x2 x3 x4
    rw [fX5_meets_55]
    refine r_iload_n C dX5_meets_55 3 3 rfl rfl ?_
    refine r_iload C dX5_meets_56 4 rfl ?_
    refine r_ishr C dX5_meets_58 ?_
    refine r_iconst (v := 1) C dX5_meets_59 (by decide) ?_
    refine r_iand C dX5_meets_60 ?_
    refine r_if_ne (tgt := 70) C dX5_meets_61 (by decide) (fun c11 => ?_) (fun c11 => ?_)
    · refine r_aload_n C dX5_meets_70 0 0 rfl rfl ?_
      refine r_iload_n C dX5_meets_71 2 2 rfl rfl ?_
      refine r_iload_n C dX5_meets_72 1 1 rfl rfl ?_
      refine r_iload C dX5_meets_73 4 rfl ?_
      refine r_bind (fun a12 ha12 => ?_)
      refine r_callV (rest := []) (st2 := []) C (mX5_lends (eL E) C.z _ _ σ x2 x1 x4 a12 ha12) lk_X5_138 (rvM C) (by decide) rfl rfl (Nat.le_of_ble_eq_true rfl) dX5_meets_75 rfl ?_
      exact r_vret C dX5_meets_78 rfl
    · refine r_iinc (v := (x4 + 1)) (lv' := [(4, .int (x4 + 1)), (0, .ref (zA Z 6 0)), (1, .int x1), (2, .int x2), (3, .int x3)]) C dX5_meets_64 4 rfl rfl (by decide) rfl ?_
      refine r_goto (tgt := 55) C dX5_meets_67 (by decide) ?_
      refine r_lv [1, 2, 3, 4, 0] (lv' := [(0, .ref (zA Z 6 0)), (1, .int x1), (2, .int x2), (3, .int x3), (4, .int (x4 + 1))]) rfl ?_
      exact ih σ x1 x2 x3 (x4 + 1)
noncomputable def fX5_meets   (σ : Nat → Int32) (x1 : Int32) (x2 : Int32) : Option ((Nat → Int32)) := (Option.bind (fX5_its σ x2 2) (fun a1 => (Option.bind (fX5_its σ x1 2) (fun a2 => (Option.bind (fX5_its σ x1 1) (fun a3 => (Option.bind (fX5_its σ x2 1) (fun a4 => (if a3 = a4 then (Option.bind (fX5_its σ x2 2) (fun a6 => (Option.bind (fX5_ones a6) (fun a7 => (Option.bind (fX5_its σ x1 2) (fun a8 => (Option.bind (fX5_ones a8) (fun a9 => (if a7 ≤ a9 then (some σ) else (fX5_meets_55 fu σ x1 x2 (a1 &&& (a2 ^^^ (-1))) 0)))))))))) else (some σ))))))))))
theorem bX5_meets {Z : Zt} {E : Ec} {M0 : Mi} {N : Ml} (C : Ok 2 Z E cX5_meets 5 RX5 none 2)    (σ : Nat → Int32) (x1 : Int32) (x2 : Int32)  : GT Z E 5 (finX5_meets M0 N) 0 [(0, .ref (zA Z 6 0)), (1, .int x1), (2, .int x2)] [] (sR M0 0 σ) N (fX5_meets σ x1 x2) := by
  unfold fX5_meets
  refine r_aload_n C dX5_meets_0 0 0 rfl rfl ?_
  refine r_iload_n C dX5_meets_1 2 2 rfl rfl ?_
  refine r_iconst (v := 2) C dX5_meets_2 (by decide) ?_
  refine r_bind (fun a1 ha1 => ?_)
  refine r_callV (rest := []) (st2 := [.int a1]) C (mX5_its (eL E) C.z _ _ σ x2 2 a1 ha1) lk_X5_83 (rvM C) (by decide) rfl rfl (Nat.le_of_ble_eq_true rfl) dX5_meets_3 rfl ?_
  refine r_aload_n C dX5_meets_6 0 0 rfl rfl ?_
  refine r_iload_n C dX5_meets_7 1 1 rfl rfl ?_
  refine r_iconst (v := 2) C dX5_meets_8 (by decide) ?_
  refine r_bind (fun a2 ha2 => ?_)
  refine r_callV (rest := [.int a1]) (st2 := [.int a2, .int a1]) C (mX5_its (eL E) C.z _ _ σ x1 2 a2 ha2) lk_X5_83 (rvM C) (by decide) rfl rfl (Nat.le_of_ble_eq_true rfl) dX5_meets_9 rfl ?_
  refine r_iconst (v := (-1)) C dX5_meets_12 (by decide) ?_
  refine r_ixor C dX5_meets_13 ?_
  refine r_iand C dX5_meets_14 ?_
  refine r_istore_n (lv' := [(3, .int (a1 &&& (a2 ^^^ (-1)))), (0, .ref (zA Z 6 0)), (1, .int x1), (2, .int x2)]) C dX5_meets_15 3 rfl (by decide) rfl ?_
  refine r_aload_n C dX5_meets_16 0 1 rfl rfl ?_
  refine r_iload_n C dX5_meets_17 1 2 rfl rfl ?_
  refine r_iconst (v := 1) C dX5_meets_18 (by decide) ?_
  refine r_bind (fun a3 ha3 => ?_)
  refine r_callV (rest := []) (st2 := [.int a3]) C (mX5_its (eL E) C.z _ _ σ x1 1 a3 ha3) lk_X5_83 (rvM C) (by decide) rfl rfl (Nat.le_of_ble_eq_true rfl) dX5_meets_19 rfl ?_
  refine r_aload_n C dX5_meets_22 0 1 rfl rfl ?_
  refine r_iload_n C dX5_meets_23 2 3 rfl rfl ?_
  refine r_iconst (v := 1) C dX5_meets_24 (by decide) ?_
  refine r_bind (fun a4 ha4 => ?_)
  refine r_callV (rest := [.int a3]) (st2 := [.int a4, .int a3]) C (mX5_its (eL E) C.z _ _ σ x2 1 a4 ha4) lk_X5_83 (rvM C) (by decide) rfl rfl (Nat.le_of_ble_eq_true rfl) dX5_meets_25 rfl ?_
  refine r_ic_ne (tgt := 78) C dX5_meets_28 (by decide) (fun c5 => ?_) (fun c5 => ?_)
  · exact r_vret C dX5_meets_78 rfl
  · refine r_aload_n C dX5_meets_31 0 1 rfl rfl ?_
    refine r_iload_n C dX5_meets_32 2 3 rfl rfl ?_
    refine r_iconst (v := 2) C dX5_meets_33 (by decide) ?_
    refine r_bind (fun a6 ha6 => ?_)
    refine r_callV (rest := []) (st2 := [.int a6]) C (mX5_its (eL E) C.z _ _ σ x2 2 a6 ha6) lk_X5_83 (rvM C) (by decide) rfl rfl (Nat.le_of_ble_eq_true rfl) dX5_meets_34 rfl ?_
    refine r_bind (fun a7 ha7 => ?_)
    refine r_callS (rest := []) (st2 := [.int a7]) C (mX5_ones (eL E) C.z _ _ a6 a7 ha7) lk_X5_145 (by decide) rfl rfl (Nat.le_of_ble_eq_true rfl) dX5_meets_37 rfl ?_
    refine r_aload_n C dX5_meets_40 0 1 rfl rfl ?_
    refine r_iload_n C dX5_meets_41 1 2 rfl rfl ?_
    refine r_iconst (v := 2) C dX5_meets_42 (by decide) ?_
    refine r_bind (fun a8 ha8 => ?_)
    refine r_callV (rest := [.int a7]) (st2 := [.int a8, .int a7]) C (mX5_its (eL E) C.z _ _ σ x1 2 a8 ha8) lk_X5_83 (rvM C) (by decide) rfl rfl (Nat.le_of_ble_eq_true rfl) dX5_meets_43 rfl ?_
    refine r_bind (fun a9 ha9 => ?_)
    refine r_callS (rest := [.int a7]) (st2 := [.int a9, .int a7]) C (mX5_ones (eL E) C.z _ _ a8 a9 ha9) lk_X5_145 (by decide) rfl rfl (Nat.le_of_ble_eq_true rfl) dX5_meets_46 rfl ?_
    refine r_ic_le (tgt := 78) C dX5_meets_49 (by decide) (fun c10 => ?_) (fun c10 => ?_)
    · exact r_vret C dX5_meets_78 rfl
    · refine r_iconst (v := 0) C dX5_meets_52 (by decide) ?_
      refine r_istore (lv' := [(4, .int 0), (3, .int (a1 &&& (a2 ^^^ (-1)))), (0, .ref (zA Z 6 0)), (1, .int x1), (2, .int x2)]) C dX5_meets_53 (by decide) rfl ?_
      refine r_lv [2, 3, 4, 1, 0] (lv' := [(0, .ref (zA Z 6 0)), (1, .int x1), (2, .int x2), (3, .int (a1 &&& (a2 ^^^ (-1)))), (4, .int 0)]) rfl ?_
      exact bX5_meets_55 C fu σ x1 x2 (a1 &&& (a2 ^^^ (-1))) 0
theorem mX5_meets (l : Launch) {Z : Zt} (hZ : Zok 2 Z) (M0 : Mi) (N : Ml) (σ : Nat → Int32) (x1 : Int32) (x2 : Int32) (b : (Nat → Int32)) (hb : fX5_meets σ x1 x2 = some b) : Ct 2 Z l yX5_meets cX5_meets 5 none 2 [.ref (zA Z 6 0), .int x1, .int x2] (sR M0 0 σ) N (none, sR M0 0 (b), N) :=
  metG (fin := (finX5_meets M0 N)) (by decide) (Nat.le_of_ble_eq_true rfl) (fun E _ C => bX5_meets C σ x1 x2) hb
theorem dX5_hour_0 : decode cX5_hour 0 = .ok (.iconst 0, 1) := by decide +kernel
theorem dX5_hour_1 : decode cX5_hour 1 = .ok (.istore_n 1, 1) := by decide +kernel
theorem dX5_hour_2 : decode cX5_hour 2 = .ok (.iload_n 1, 1) := by decide +kernel
theorem dX5_hour_3 : decode cX5_hour 3 = .ok (.aload_n 0, 1) := by decide +kernel
theorem dX5_hour_4 : decode cX5_hour 4 = .ok (.getfield 7, 3) := by decide +kernel
theorem dX5_hour_7 : decode cX5_hour 7 = .ok (.iconst 1, 1) := by decide +kernel
theorem dX5_hour_8 : decode cX5_hour 8 = .ok (.iaload, 1) := by decide +kernel
theorem dX5_hour_9 : decode cX5_hour 9 = .ok (.if_icmp .ge 23, 3) := by decide +kernel
theorem dX5_hour_12 : decode cX5_hour 12 = .ok (.aload_n 0, 1) := by decide +kernel
theorem dX5_hour_13 : decode cX5_hour 13 = .ok (.iload_n 1, 1) := by decide +kernel
theorem dX5_hour_14 : decode cX5_hour 14 = .ok (.iconst 3, 1) := by decide +kernel
theorem dX5_hour_15 : decode cX5_hour 15 = .ok (.invokevirtual 83, 3) := by decide +kernel
theorem dX5_hour_18 : decode cX5_hour 18 = .ok (.ifCond .ne 8, 3) := by decide +kernel
theorem dX5_hour_21 : decode cX5_hour 21 = .ok (.aload_n 0, 1) := by decide +kernel
theorem dX5_hour_22 : decode cX5_hour 22 = .ok (.iload_n 1, 1) := by decide +kernel
theorem dX5_hour_23 : decode cX5_hour 23 = .ok (.invokevirtual 148, 3) := by decide +kernel
theorem dX5_hour_26 : decode cX5_hour 26 = .ok (.iinc 1 1, 3) := by decide +kernel
theorem dX5_hour_29 : decode cX5_hour 29 = .ok (.goto (-27), 3) := by decide +kernel
theorem dX5_hour_32 : decode cX5_hour 32 = .ok (.iconst 0, 1) := by decide +kernel
theorem dX5_hour_33 : decode cX5_hour 33 = .ok (.istore_n 1, 1) := by decide +kernel
theorem dX5_hour_34 : decode cX5_hour 34 = .ok (.iload_n 1, 1) := by decide +kernel
theorem dX5_hour_35 : decode cX5_hour 35 = .ok (.aload_n 0, 1) := by decide +kernel
theorem dX5_hour_36 : decode cX5_hour 36 = .ok (.getfield 7, 3) := by decide +kernel
theorem dX5_hour_39 : decode cX5_hour 39 = .ok (.iconst 1, 1) := by decide +kernel
theorem dX5_hour_40 : decode cX5_hour 40 = .ok (.iaload, 1) := by decide +kernel
theorem dX5_hour_41 : decode cX5_hour 41 = .ok (.if_icmp .ge 35, 3) := by decide +kernel
theorem dX5_hour_44 : decode cX5_hour 44 = .ok (.iload_n 1, 1) := by decide +kernel
theorem dX5_hour_45 : decode cX5_hour 45 = .ok (.iconst 1, 1) := by decide +kernel
theorem dX5_hour_46 : decode cX5_hour 46 = .ok (.iadd, 1) := by decide +kernel
theorem dX5_hour_47 : decode cX5_hour 47 = .ok (.istore_n 2, 1) := by decide +kernel
theorem dX5_hour_48 : decode cX5_hour 48 = .ok (.iload_n 2, 1) := by decide +kernel
theorem dX5_hour_49 : decode cX5_hour 49 = .ok (.aload_n 0, 1) := by decide +kernel
theorem dX5_hour_50 : decode cX5_hour 50 = .ok (.getfield 7, 3) := by decide +kernel
theorem dX5_hour_53 : decode cX5_hour 53 = .ok (.iconst 1, 1) := by decide +kernel
theorem dX5_hour_54 : decode cX5_hour 54 = .ok (.iaload, 1) := by decide +kernel
theorem dX5_hour_55 : decode cX5_hour 55 = .ok (.if_icmp .ge 15, 3) := by decide +kernel
theorem dX5_hour_58 : decode cX5_hour 58 = .ok (.aload_n 0, 1) := by decide +kernel
theorem dX5_hour_59 : decode cX5_hour 59 = .ok (.iload_n 1, 1) := by decide +kernel
theorem dX5_hour_60 : decode cX5_hour 60 = .ok (.iload_n 2, 1) := by decide +kernel
theorem dX5_hour_61 : decode cX5_hour 61 = .ok (.invokevirtual 152, 3) := by decide +kernel
theorem dX5_hour_64 : decode cX5_hour 64 = .ok (.iinc 2 1, 3) := by decide +kernel
theorem dX5_hour_67 : decode cX5_hour 67 = .ok (.goto (-19), 3) := by decide +kernel
theorem dX5_hour_70 : decode cX5_hour 70 = .ok (.iinc 1 1, 3) := by decide +kernel
theorem dX5_hour_73 : decode cX5_hour 73 = .ok (.goto (-39), 3) := by decide +kernel
theorem dX5_hour_76 : decode cX5_hour 76 = .ok (.aload_n 0, 1) := by decide +kernel
theorem dX5_hour_77 : decode cX5_hour 77 = .ok (.getfield 7, 3) := by decide +kernel
theorem dX5_hour_80 : decode cX5_hour 80 = .ok (.iconst 0, 1) := by decide +kernel
theorem dX5_hour_81 : decode cX5_hour 81 = .ok (.dup2, 1) := by decide +kernel
theorem dX5_hour_82 : decode cX5_hour 82 = .ok (.iaload, 1) := by decide +kernel
theorem dX5_hour_83 : decode cX5_hour 83 = .ok (.iconst 1, 1) := by decide +kernel
theorem dX5_hour_84 : decode cX5_hour 84 = .ok (.iadd, 1) := by decide +kernel
theorem dX5_hour_85 : decode cX5_hour 85 = .ok (.iastore, 1) := by decide +kernel
theorem dX5_hour_86 : decode cX5_hour 86 = .ok (.return_, 1) := by decide +kernel
def finX5_hour (M0 : Mi) (N : Ml) : (Nat → Int32) → Option Value × Mi × Ml := fun b => (none, sR M0 0 (b), N)
noncomputable def fX5_hour_48  (r70 : (Nat → Int32) → Int32 → Option ((Nat → Int32))) : Nat → (Nat → Int32) → Int32 → Int32 → Option ((Nat → Int32))
  | 0 => fun _ _ _ => none
  | n + 1 => fun σ x1 x2 => (if (σ 1) ≤ x2 then (r70 σ x1) else (Option.bind (fX5_meets σ x1 x2) (fun a4 => ((fX5_hour_48 r70 n) a4 x1 (x2 + 1)))))
theorem bX5_hour_48 {Z : Zt} {E : Ec} {M0 : Mi} {N : Ml} (C : Ok 2 Z E cX5_hour 3 RX5 none 4)  (r70 : (Nat → Int32) → Int32 → Option ((Nat → Int32))) (hr70 : ∀ (σ : Nat → Int32) (x1 : Int32), GT Z E 3 (finX5_hour M0 N) 70 [(0, .ref (zA Z 6 0)), (1, .int x1)] [] (sR M0 0 σ) N (r70 σ x1)) : ∀ (n : Nat) (σ : Nat → Int32) (x1 : Int32) (x2 : Int32), GT Z E 3 (finX5_hour M0 N) 48 [(0, .ref (zA Z 6 0)), (1, .int x1), (2, .int x2)] [] (sR M0 0 σ) N (fX5_hour_48 r70 n σ x1 x2) := by
  intro n
  induction n with
  | zero => intro σ x1 x2; exact r_none
  | succ n ih =>
    intro σ x1 x2
    rw [fX5_hour_48]
    refine r_iload_n C dX5_hour_48 2 2 rfl rfl ?_
    refine r_aload_n C dX5_hour_49 0 0 rfl rfl ?_
    refine gf_X5_7 C dX5_hour_50 ?_
    refine r_iconst (v := 1) C dX5_hour_53 (by decide) ?_
    refine ald_M (v := (σ 1)) C mI_0 (by decide) (sR_at _ _ _ _) dX5_hour_54 ?_
    refine r_ic_ge (tgt := 70) C dX5_hour_55 (by decide) (fun c3 => ?_) (fun c3 => ?_)
    · refine r_lv [0, 1] (lv' := [(0, .ref (zA Z 6 0)), (1, .int x1)]) rfl ?_
      exact hr70 σ x1
    · refine r_aload_n C dX5_hour_58 0 0 rfl rfl ?_
      refine r_iload_n C dX5_hour_59 1 1 rfl rfl ?_
      refine r_iload_n C dX5_hour_60 2 2 rfl rfl ?_
      refine r_bind (fun a4 ha4 => ?_)
      refine r_callV (rest := []) (st2 := []) C (mX5_meets (eL E) C.z _ _ σ x1 x2 a4 ha4) lk_X5_152 (rvM C) (by decide) rfl rfl (Nat.le_of_ble_eq_true rfl) dX5_hour_61 rfl ?_
      refine r_iinc (v := (x2 + 1)) (lv' := [(2, .int (x2 + 1)), (0, .ref (zA Z 6 0)), (1, .int x1)]) C dX5_hour_64 2 rfl rfl (by decide) rfl ?_
      refine r_goto (tgt := 48) C dX5_hour_67 (by decide) ?_
      refine r_lv [1, 2, 0] (lv' := [(0, .ref (zA Z 6 0)), (1, .int x1), (2, .int (x2 + 1))]) rfl ?_
      exact ih a4 x1 (x2 + 1)
noncomputable def fX5_hour_70  (r34 : (Nat → Int32) → Int32 → Option ((Nat → Int32))) (σ : Nat → Int32) (x1 : Int32) : Option ((Nat → Int32)) := (r34 σ (x1 + 1))
theorem bX5_hour_70 {Z : Zt} {E : Ec} {M0 : Mi} {N : Ml} (C : Ok 2 Z E cX5_hour 3 RX5 none 4)  (r34 : (Nat → Int32) → Int32 → Option ((Nat → Int32))) (hr34 : ∀ (σ : Nat → Int32) (x1 : Int32), GT Z E 3 (finX5_hour M0 N) 34 [(0, .ref (zA Z 6 0)), (1, .int x1)] [] (sR M0 0 σ) N (r34 σ x1)) (σ : Nat → Int32) (x1 : Int32)  : GT Z E 3 (finX5_hour M0 N) 70 [(0, .ref (zA Z 6 0)), (1, .int x1)] [] (sR M0 0 σ) N (fX5_hour_70 r34 σ x1) := by
  unfold fX5_hour_70
  refine r_iinc (v := (x1 + 1)) (lv' := [(1, .int (x1 + 1)), (0, .ref (zA Z 6 0))]) C dX5_hour_70 1 rfl rfl (by decide) rfl ?_
  refine r_goto (tgt := 34) C dX5_hour_73 (by decide) ?_
  refine r_lv [1, 0] (lv' := [(0, .ref (zA Z 6 0)), (1, .int (x1 + 1))]) rfl ?_
  exact hr34 σ (x1 + 1)
noncomputable def fX5_hour_34   : Nat → (Nat → Int32) → Int32 → Option ((Nat → Int32))
  | 0 => fun _ _ => none
  | n + 1 => fun σ x1 => (if (σ 1) ≤ x1 then (some (upd σ 0 ((σ 0) + 1))) else (fX5_hour_48 (fX5_hour_70 (fX5_hour_34 n)) fu σ x1 (x1 + 1)))
theorem bX5_hour_34 {Z : Zt} {E : Ec} {M0 : Mi} {N : Ml} (C : Ok 2 Z E cX5_hour 3 RX5 none 4)    : ∀ (n : Nat) (σ : Nat → Int32) (x1 : Int32), GT Z E 3 (finX5_hour M0 N) 34 [(0, .ref (zA Z 6 0)), (1, .int x1)] [] (sR M0 0 σ) N (fX5_hour_34 n σ x1) := by
  intro n
  induction n with
  | zero => intro σ x1; exact r_none
  | succ n ih =>
    intro σ x1
    rw [fX5_hour_34]
    refine r_iload_n C dX5_hour_34 1 1 rfl rfl ?_
    refine r_aload_n C dX5_hour_35 0 0 rfl rfl ?_
    refine gf_X5_7 C dX5_hour_36 ?_
    refine r_iconst (v := 1) C dX5_hour_39 (by decide) ?_
    refine ald_M (v := (σ 1)) C mI_0 (by decide) (sR_at _ _ _ _) dX5_hour_40 ?_
    refine r_ic_ge (tgt := 76) C dX5_hour_41 (by decide) (fun c2 => ?_) (fun c2 => ?_)
    · refine r_aload_n C dX5_hour_76 0 0 rfl rfl ?_
      refine gf_X5_7 C dX5_hour_77 ?_
      refine r_iconst (v := 0) C dX5_hour_80 (by decide) ?_
      refine r_dup2 C dX5_hour_81 rfl rfl ?_
      refine ald_M (v := (σ 0)) C mI_0 (by decide) (sR_at _ _ _ _) dX5_hour_82 ?_
      refine r_iconst (v := 1) C dX5_hour_83 (by decide) ?_
      refine r_iadd C dX5_hour_84 ?_
      refine ast_M (M' := (sR M0 0 (upd σ 0 ((σ 0) + 1)))) C mI_0 (by decide) (wM_sR _ _ _ _ _) dX5_hour_85 ?_
      exact r_vret C dX5_hour_86 rfl
    · refine r_iload_n C dX5_hour_44 1 1 rfl rfl ?_
      refine r_iconst (v := 1) C dX5_hour_45 (by decide) ?_
      refine r_iadd C dX5_hour_46 ?_
      refine r_istore_n (lv' := [(2, .int (x1 + 1)), (0, .ref (zA Z 6 0)), (1, .int x1)]) C dX5_hour_47 2 rfl (by decide) rfl ?_
      refine r_lv [1, 2, 0] (lv' := [(0, .ref (zA Z 6 0)), (1, .int x1), (2, .int (x1 + 1))]) rfl ?_
      exact bX5_hour_48 C (fX5_hour_70 (fX5_hour_34 n)) (bX5_hour_70 C (fX5_hour_34 n) ih) fu σ x1 (x1 + 1)
noncomputable def fX5_hour_2   : Nat → (Nat → Int32) → Int32 → Option ((Nat → Int32))
  | 0 => fun _ _ => none
  | n + 1 => fun σ x1 => (if (σ 1) ≤ x1 then (fX5_hour_34 fu σ 0) else (Option.bind (fX5_its σ x1 3) (fun a5 => (if a5 = 0 then (Option.bind (fX5_goes σ x1) (fun a7 => ((fX5_hour_2 n) a7 (x1 + 1)))) else ((fX5_hour_2 n) σ (x1 + 1))))))
theorem bX5_hour_2 {Z : Zt} {E : Ec} {M0 : Mi} {N : Ml} (C : Ok 2 Z E cX5_hour 3 RX5 none 4)    : ∀ (n : Nat) (σ : Nat → Int32) (x1 : Int32), GT Z E 3 (finX5_hour M0 N) 2 [(0, .ref (zA Z 6 0)), (1, .int x1)] [] (sR M0 0 σ) N (fX5_hour_2 n σ x1) := by
  intro n
  induction n with
  | zero => intro σ x1; exact r_none
  | succ n ih =>
    intro σ x1
    rw [fX5_hour_2]
    refine r_iload_n C dX5_hour_2 1 1 rfl rfl ?_
    refine r_aload_n C dX5_hour_3 0 0 rfl rfl ?_
    refine gf_X5_7 C dX5_hour_4 ?_
    refine r_iconst (v := 1) C dX5_hour_7 (by decide) ?_
    refine ald_M (v := (σ 1)) C mI_0 (by decide) (sR_at _ _ _ _) dX5_hour_8 ?_
    refine r_ic_ge (tgt := 32) C dX5_hour_9 (by decide) (fun c1 => ?_) (fun c1 => ?_)
    · refine r_iconst (v := 0) C dX5_hour_32 (by decide) ?_
      refine r_istore_n (lv' := [(1, .int 0), (0, .ref (zA Z 6 0))]) C dX5_hour_33 1 rfl (by decide) rfl ?_
      refine r_lv [1, 0] (lv' := [(0, .ref (zA Z 6 0)), (1, .int 0)]) rfl ?_
      exact bX5_hour_34 C fu σ 0
    · refine r_aload_n C dX5_hour_12 0 0 rfl rfl ?_
      refine r_iload_n C dX5_hour_13 1 1 rfl rfl ?_
      refine r_iconst (v := 3) C dX5_hour_14 (by decide) ?_
      refine r_bind (fun a5 ha5 => ?_)
      refine r_callV (rest := []) (st2 := [.int a5]) C (mX5_its (eL E) C.z _ _ σ x1 3 a5 ha5) lk_X5_83 (rvM C) (by decide) rfl rfl (Nat.le_of_ble_eq_true rfl) dX5_hour_15 rfl ?_
      refine r_if_ne (tgt := 26) C dX5_hour_18 (by decide) (fun c6 => ?_) (fun c6 => ?_)
      · refine r_iinc (v := (x1 + 1)) (lv' := [(1, .int (x1 + 1)), (0, .ref (zA Z 6 0))]) C dX5_hour_26 1 rfl rfl (by decide) rfl ?_
        refine r_goto (tgt := 2) C dX5_hour_29 (by decide) ?_
        refine r_lv [1, 0] (lv' := [(0, .ref (zA Z 6 0)), (1, .int (x1 + 1))]) rfl ?_
        exact ih σ (x1 + 1)
      · refine r_aload_n C dX5_hour_21 0 0 rfl rfl ?_
        refine r_iload_n C dX5_hour_22 1 1 rfl rfl ?_
        refine r_bind (fun a7 ha7 => ?_)
        refine r_callV (rest := []) (st2 := []) C (mX5_goes (eL E) C.z _ _ σ x1 a7 ha7) lk_X5_148 (rvM C) (by decide) rfl rfl (Nat.le_of_ble_eq_true rfl) dX5_hour_23 rfl ?_
        refine r_iinc (v := (x1 + 1)) (lv' := [(1, .int (x1 + 1)), (0, .ref (zA Z 6 0))]) C dX5_hour_26 1 rfl rfl (by decide) rfl ?_
        refine r_goto (tgt := 2) C dX5_hour_29 (by decide) ?_
        refine r_lv [1, 0] (lv' := [(0, .ref (zA Z 6 0)), (1, .int (x1 + 1))]) rfl ?_
        exact ih a7 (x1 + 1)
noncomputable def fX5_hour   (σ : Nat → Int32) : Option ((Nat → Int32)) := (fX5_hour_2 fu σ 0)
theorem bX5_hour {Z : Zt} {E : Ec} {M0 : Mi} {N : Ml} (C : Ok 2 Z E cX5_hour 3 RX5 none 4)    (σ : Nat → Int32)  : GT Z E 3 (finX5_hour M0 N) 0 [(0, .ref (zA Z 6 0))] [] (sR M0 0 σ) N (fX5_hour σ) := by
  unfold fX5_hour
  refine r_iconst (v := 0) C dX5_hour_0 (by decide) ?_
  refine r_istore_n (lv' := [(1, .int 0), (0, .ref (zA Z 6 0))]) C dX5_hour_1 1 rfl (by decide) rfl ?_
  refine r_lv [1, 0] (lv' := [(0, .ref (zA Z 6 0)), (1, .int 0)]) rfl ?_
  exact bX5_hour_2 C fu σ 0
theorem mX5_hour (l : Launch) {Z : Zt} (hZ : Zok 2 Z) (M0 : Mi) (N : Ml) (σ : Nat → Int32) (b : (Nat → Int32)) (hb : fX5_hour σ = some b) : Ct 2 Z l yX5_hour cX5_hour 3 none 4 [.ref (zA Z 6 0)] (sR M0 0 σ) N (none, sR M0 0 (b), N) :=
  metG (fin := (finX5_hour M0 N)) (by decide) (Nat.le_of_ble_eq_true rfl) (fun E _ C => bX5_hour C σ) hb
theorem dX5_go_0 : decode cX5_go 0 = .ok (.iconst 0, 1) := by decide +kernel
theorem dX5_go_1 : decode cX5_go 1 = .ok (.istore_n 2, 1) := by decide +kernel
theorem dX5_go_2 : decode cX5_go 2 = .ok (.iload_n 2, 1) := by decide +kernel
theorem dX5_go_3 : decode cX5_go 3 = .ok (.iload_n 1, 1) := by decide +kernel
theorem dX5_go_4 : decode cX5_go 4 = .ok (.if_icmp .ge 13, 3) := by decide +kernel
theorem dX5_go_7 : decode cX5_go 7 = .ok (.aload_n 0, 1) := by decide +kernel
theorem dX5_go_8 : decode cX5_go 8 = .ok (.invokevirtual 155, 3) := by decide +kernel
theorem dX5_go_11 : decode cX5_go 11 = .ok (.iinc 2 1, 3) := by decide +kernel
theorem dX5_go_14 : decode cX5_go 14 = .ok (.goto (-12), 3) := by decide +kernel
theorem dX5_go_17 : decode cX5_go 17 = .ok (.return_, 1) := by decide +kernel
def finX5_go (M0 : Mi) (N : Ml) : (Nat → Int32) → Option Value × Mi × Ml := fun b => (none, sR M0 0 (b), N)
noncomputable def fX5_go_2   : Nat → (Nat → Int32) → Int32 → Int32 → Option ((Nat → Int32))
  | 0 => fun _ _ _ => none
  | n + 1 => fun σ x1 x2 => (if x1 ≤ x2 then (some σ) else (Option.bind (fX5_hour σ) (fun a2 => ((fX5_go_2 n) a2 x1 (x2 + 1)))))
theorem bX5_go_2 {Z : Zt} {E : Ec} {M0 : Mi} {N : Ml} (C : Ok 2 Z E cX5_go 3 RX5 none 5)    : ∀ (n : Nat) (σ : Nat → Int32) (x1 : Int32) (x2 : Int32), GT Z E 3 (finX5_go M0 N) 2 [(0, .ref (zA Z 6 0)), (1, .int x1), (2, .int x2)] [] (sR M0 0 σ) N (fX5_go_2 n σ x1 x2) := by
  intro n
  induction n with
  | zero => intro σ x1 x2; exact r_none
  | succ n ih =>
    intro σ x1 x2
    rw [fX5_go_2]
    refine r_iload_n C dX5_go_2 2 2 rfl rfl ?_
    refine r_iload_n C dX5_go_3 1 1 rfl rfl ?_
    refine r_ic_ge (tgt := 17) C dX5_go_4 (by decide) (fun c1 => ?_) (fun c1 => ?_)
    · exact r_vret C dX5_go_17 rfl
    · refine r_aload_n C dX5_go_7 0 0 rfl rfl ?_
      refine r_bind (fun a2 ha2 => ?_)
      refine r_callV (rest := []) (st2 := []) C (mX5_hour (eL E) C.z _ _ σ a2 ha2) lk_X5_155 (rvM C) (by decide) rfl rfl (Nat.le_of_ble_eq_true rfl) dX5_go_8 rfl ?_
      refine r_iinc (v := (x2 + 1)) (lv' := [(2, .int (x2 + 1)), (0, .ref (zA Z 6 0)), (1, .int x1)]) C dX5_go_11 2 rfl rfl (by decide) rfl ?_
      refine r_goto (tgt := 2) C dX5_go_14 (by decide) ?_
      refine r_lv [1, 2, 0] (lv' := [(0, .ref (zA Z 6 0)), (1, .int x1), (2, .int (x2 + 1))]) rfl ?_
      exact ih a2 x1 (x2 + 1)
noncomputable def fX5_go   (σ : Nat → Int32) (x1 : Int32) : Option ((Nat → Int32)) := (fX5_go_2 fu σ x1 0)
theorem bX5_go {Z : Zt} {E : Ec} {M0 : Mi} {N : Ml} (C : Ok 2 Z E cX5_go 3 RX5 none 5)    (σ : Nat → Int32) (x1 : Int32)  : GT Z E 3 (finX5_go M0 N) 0 [(0, .ref (zA Z 6 0)), (1, .int x1)] [] (sR M0 0 σ) N (fX5_go σ x1) := by
  unfold fX5_go
  refine r_iconst (v := 0) C dX5_go_0 (by decide) ?_
  refine r_istore_n (lv' := [(2, .int 0), (0, .ref (zA Z 6 0)), (1, .int x1)]) C dX5_go_1 2 rfl (by decide) rfl ?_
  refine r_lv [1, 2, 0] (lv' := [(0, .ref (zA Z 6 0)), (1, .int x1), (2, .int 0)]) rfl ?_
  exact bX5_go_2 C fu σ x1 0
theorem mX5_go (l : Launch) {Z : Zt} (hZ : Zok 2 Z) (M0 : Mi) (N : Ml) (σ : Nat → Int32) (x1 : Int32) (b : (Nat → Int32)) (hb : fX5_go σ x1 = some b) : Ct 2 Z l yX5_go cX5_go 3 none 5 [.ref (zA Z 6 0), .int x1] (sR M0 0 σ) N (none, sR M0 0 (b), N) :=
  metG (fin := (finX5_go M0 N)) (by decide) (Nat.le_of_ble_eq_true rfl) (fun E _ C => bX5_go C σ x1) hb
theorem dX5_allBooks_0 : decode cX5_allBooks 0 = .ok (.iconst 0, 1) := by decide +kernel
theorem dX5_allBooks_1 : decode cX5_allBooks 1 = .ok (.istore_n 1, 1) := by decide +kernel
theorem dX5_allBooks_2 : decode cX5_allBooks 2 = .ok (.iconst 0, 1) := by decide +kernel
theorem dX5_allBooks_3 : decode cX5_allBooks 3 = .ok (.istore_n 2, 1) := by decide +kernel
theorem dX5_allBooks_4 : decode cX5_allBooks 4 = .ok (.iload_n 2, 1) := by decide +kernel
theorem dX5_allBooks_5 : decode cX5_allBooks 5 = .ok (.aload_n 0, 1) := by decide +kernel
theorem dX5_allBooks_6 : decode cX5_allBooks 6 = .ok (.getfield 7, 3) := by decide +kernel
theorem dX5_allBooks_9 : decode cX5_allBooks 9 = .ok (.iconst 1, 1) := by decide +kernel
theorem dX5_allBooks_10 : decode cX5_allBooks 10 = .ok (.iaload, 1) := by decide +kernel
theorem dX5_allBooks_11 : decode cX5_allBooks 11 = .ok (.if_icmp .ge 21, 3) := by decide +kernel
theorem dX5_allBooks_14 : decode cX5_allBooks 14 = .ok (.iload_n 1, 1) := by decide +kernel
theorem dX5_allBooks_15 : decode cX5_allBooks 15 = .ok (.aload_n 0, 1) := by decide +kernel
theorem dX5_allBooks_16 : decode cX5_allBooks 16 = .ok (.iload_n 2, 1) := by decide +kernel
theorem dX5_allBooks_17 : decode cX5_allBooks 17 = .ok (.iconst 2, 1) := by decide +kernel
theorem dX5_allBooks_18 : decode cX5_allBooks 18 = .ok (.invokevirtual 83, 3) := by decide +kernel
theorem dX5_allBooks_21 : decode cX5_allBooks 21 = .ok (.invokestatic 145, 3) := by decide +kernel
theorem dX5_allBooks_24 : decode cX5_allBooks 24 = .ok (.iadd, 1) := by decide +kernel
theorem dX5_allBooks_25 : decode cX5_allBooks 25 = .ok (.istore_n 1, 1) := by decide +kernel
theorem dX5_allBooks_26 : decode cX5_allBooks 26 = .ok (.iinc 2 1, 3) := by decide +kernel
theorem dX5_allBooks_29 : decode cX5_allBooks 29 = .ok (.goto (-25), 3) := by decide +kernel
theorem dX5_allBooks_32 : decode cX5_allBooks 32 = .ok (.iload_n 1, 1) := by decide +kernel
theorem dX5_allBooks_33 : decode cX5_allBooks 33 = .ok (.ireturn, 1) := by decide +kernel
def finX5_allBooks (M0 : Mi) (σ : Nat → Int32) (N : Ml) : Int32 → Option Value × Mi × Ml := fun b => (some (Value.int b), sR M0 0 σ, N)
noncomputable def fX5_allBooks_4 (σ : Nat → Int32)  : Nat → Int32 → Int32 → Option (Int32)
  | 0 => fun _ _ => none
  | n + 1 => fun x1 x2 => (if (σ 1) ≤ x2 then (some x1) else (Option.bind (fX5_its σ x2 2) (fun a2 => (Option.bind (fX5_ones a2) (fun a3 => ((fX5_allBooks_4 σ n) (x1 + a3) (x2 + 1)))))))
theorem bX5_allBooks_4 {Z : Zt} {E : Ec} {M0 : Mi} {σ : Nat → Int32} {N : Ml} (C : Ok 2 Z E cX5_allBooks 3 RX5 (some .int) 2)    : ∀ (n : Nat) (x1 : Int32) (x2 : Int32), GT Z E 3 (finX5_allBooks M0 σ N) 4 [(0, .ref (zA Z 6 0)), (1, .int x1), (2, .int x2)] [] (sR M0 0 σ) N (fX5_allBooks_4 σ n x1 x2) := by
  intro n
  induction n with
  | zero => intro x1 x2; exact r_none
  | succ n ih =>
    intro x1 x2
    rw [fX5_allBooks_4]
    refine r_iload_n C dX5_allBooks_4 2 2 rfl rfl ?_
    refine r_aload_n C dX5_allBooks_5 0 0 rfl rfl ?_
    refine gf_X5_7 C dX5_allBooks_6 ?_
    refine r_iconst (v := 1) C dX5_allBooks_9 (by decide) ?_
    refine ald_M (v := (σ 1)) C mI_0 (by decide) (sR_at _ _ _ _) dX5_allBooks_10 ?_
    refine r_ic_ge (tgt := 32) C dX5_allBooks_11 (by decide) (fun c1 => ?_) (fun c1 => ?_)
    · refine r_iload_n C dX5_allBooks_32 1 1 rfl rfl ?_
      exact r_iret C dX5_allBooks_33 rfl
    · refine r_iload_n C dX5_allBooks_14 1 1 rfl rfl ?_
      refine r_aload_n C dX5_allBooks_15 0 0 rfl rfl ?_
      refine r_iload_n C dX5_allBooks_16 2 2 rfl rfl ?_
      refine r_iconst (v := 2) C dX5_allBooks_17 (by decide) ?_
      refine r_bind (fun a2 ha2 => ?_)
      refine r_callV (rest := [.int x1]) (st2 := [.int a2, .int x1]) C (mX5_its (eL E) C.z _ _ σ x2 2 a2 ha2) lk_X5_83 (rvM C) (by decide) rfl rfl (Nat.le_of_ble_eq_true rfl) dX5_allBooks_18 rfl ?_
      refine r_bind (fun a3 ha3 => ?_)
      refine r_callS (rest := [.int x1]) (st2 := [.int a3, .int x1]) C (mX5_ones (eL E) C.z _ _ a2 a3 ha3) lk_X5_145 (by decide) rfl rfl (Nat.le_of_ble_eq_true rfl) dX5_allBooks_21 rfl ?_
      refine r_iadd C dX5_allBooks_24 ?_
      refine r_istore_n (lv' := [(1, .int (x1 + a3)), (0, .ref (zA Z 6 0)), (2, .int x2)]) C dX5_allBooks_25 1 rfl (by decide) rfl ?_
      refine r_iinc (v := (x2 + 1)) (lv' := [(2, .int (x2 + 1)), (1, .int (x1 + a3)), (0, .ref (zA Z 6 0))]) C dX5_allBooks_26 2 rfl rfl (by decide) rfl ?_
      refine r_goto (tgt := 4) C dX5_allBooks_29 (by decide) ?_
      refine r_lv [2, 1, 0] (lv' := [(0, .ref (zA Z 6 0)), (1, .int (x1 + a3)), (2, .int (x2 + 1))]) rfl ?_
      exact ih (x1 + a3) (x2 + 1)
noncomputable def fX5_allBooks (σ : Nat → Int32)   : Option (Int32) := (fX5_allBooks_4 σ fu 0 0)
theorem bX5_allBooks {Z : Zt} {E : Ec} {M0 : Mi} {σ : Nat → Int32} {N : Ml} (C : Ok 2 Z E cX5_allBooks 3 RX5 (some .int) 2)      : GT Z E 3 (finX5_allBooks M0 σ N) 0 [(0, .ref (zA Z 6 0))] [] (sR M0 0 σ) N (fX5_allBooks σ ) := by
  unfold fX5_allBooks
  refine r_iconst (v := 0) C dX5_allBooks_0 (by decide) ?_
  refine r_istore_n (lv' := [(1, .int 0), (0, .ref (zA Z 6 0))]) C dX5_allBooks_1 1 rfl (by decide) rfl ?_
  refine r_iconst (v := 0) C dX5_allBooks_2 (by decide) ?_
  refine r_istore_n (lv' := [(2, .int 0), (1, .int 0), (0, .ref (zA Z 6 0))]) C dX5_allBooks_3 2 rfl (by decide) rfl ?_
  refine r_lv [2, 1, 0] (lv' := [(0, .ref (zA Z 6 0)), (1, .int 0), (2, .int 0)]) rfl ?_
  exact bX5_allBooks_4 C fu 0 0
theorem mX5_allBooks (l : Launch) {Z : Zt} (hZ : Zok 2 Z) (M0 : Mi) (N : Ml) (σ : Nat → Int32) (b : Int32) (hb : fX5_allBooks σ = some b) : Ct 2 Z l yX5_allBooks cX5_allBooks 3 (some .int) 2 [.ref (zA Z 6 0)] (sR M0 0 σ) N (some (Value.int b), sR M0 0 σ, N) :=
  metG (fin := (finX5_allBooks M0 σ N)) (by decide) (Nat.le_of_ble_eq_true rfl) (fun E _ C => bX5_allBooks C) hb
theorem dX5_hours_0 : decode cX5_hours 0 = .ok (.iload_n 1, 1) := by decide +kernel
theorem dX5_hours_1 : decode cX5_hours 1 = .ok (.i2l, 1) := by decide +kernel
theorem dX5_hours_2 : decode cX5_hours 2 = .ok (.lconst 1, 1) := by decide +kernel
theorem dX5_hours_3 : decode cX5_hours 3 = .ok (.ldc2_w 158, 3) := by decide +kernel
theorem dX5_hours_6 : decode cX5_hours 6 = .ok (.invokestatic 44, 3) := by decide +kernel
theorem dX5_hours_9 : decode cX5_hours 9 = .ok (.ifCond .ne 10, 3) := by decide +kernel
theorem dX5_hours_12 : decode cX5_hours 12 = .ok (.aload_n 0, 1) := by decide +kernel
theorem dX5_hours_13 : decode cX5_hours 13 = .ok (.ldc 41, 2) := by decide +kernel
theorem dX5_hours_15 : decode cX5_hours 15 = .ok (.invokevirtual 65, 3) := by decide +kernel
theorem dX5_hours_18 : decode cX5_hours 18 = .ok (.ireturn, 1) := by decide +kernel
theorem dX5_hours_19 : decode cX5_hours 19 = .ok (.aload_n 0, 1) := by decide +kernel
theorem dX5_hours_20 : decode cX5_hours 20 = .ok (.getfield 7, 3) := by decide +kernel
theorem dX5_hours_23 : decode cX5_hours 23 = .ok (.iconst 0, 1) := by decide +kernel
theorem dX5_hours_24 : decode cX5_hours 24 = .ok (.iaload, 1) := by decide +kernel
theorem dX5_hours_25 : decode cX5_hours 25 = .ok (.iload_n 1, 1) := by decide +kernel
theorem dX5_hours_26 : decode cX5_hours 26 = .ok (.iadd, 1) := by decide +kernel
theorem dX5_hours_27 : decode cX5_hours 27 = .ok (.sipush 9999, 3) := by decide +kernel
theorem dX5_hours_30 : decode cX5_hours 30 = .ok (.if_icmp .le 10, 3) := by decide +kernel
theorem dX5_hours_33 : decode cX5_hours 33 = .ok (.aload_n 0, 1) := by decide +kernel
theorem dX5_hours_34 : decode cX5_hours 34 = .ok (.ldc 136, 2) := by decide +kernel
theorem dX5_hours_36 : decode cX5_hours 36 = .ok (.invokevirtual 65, 3) := by decide +kernel
theorem dX5_hours_39 : decode cX5_hours 39 = .ok (.ireturn, 1) := by decide +kernel
theorem dX5_hours_40 : decode cX5_hours 40 = .ok (.aload_n 0, 1) := by decide +kernel
theorem dX5_hours_41 : decode cX5_hours 41 = .ok (.iload_n 1, 1) := by decide +kernel
theorem dX5_hours_42 : decode cX5_hours 42 = .ok (.invokevirtual 160, 3) := by decide +kernel
theorem dX5_hours_45 : decode cX5_hours 45 = .ok (.aload_n 0, 1) := by decide +kernel
theorem dX5_hours_46 : decode cX5_hours 46 = .ok (.invokevirtual 163, 3) := by decide +kernel
theorem dX5_hours_49 : decode cX5_hours 49 = .ok (.ireturn, 1) := by decide +kernel
def finX5_hours (N : Ml) : Int32 × Mi → Option Value × Mi × Ml := fun b => (some (Value.int b.1), b.2, N)
noncomputable def fX5_hours   (M : Mi) (x1 : Int32) : Option (Int32 × Mi) := (if (fX5_in (Int32.toInt64 x1) 1 72) = 0 then (Option.bind (fX5_finds M (-1000000001)) (fun a6 => (some (a6.1, (a6.2))))) else (if ((M 0 0) + x1) ≤ 9999 then (Option.bind (fX5_go (M 0) x1) (fun a3 => (Option.bind (fX5_allBooks a3) (fun a4 => (some (a4, (sR M 0 a3))))))) else (Option.bind (fX5_finds M (-1000000005)) (fun a5 => (some (a5.1, (a5.2)))))))
theorem bX5_hours {Z : Zt} {E : Ec} {N : Ml} (C : Ok 2 Z E cX5_hours 2 RX5 (some .int) 6)    (M : Mi) (x1 : Int32)  : GT Z E 2 (finX5_hours N) 0 [(0, .ref (zA Z 6 0)), (1, .int x1)] [] M N (fX5_hours M x1) := by
  unfold fX5_hours
  refine r_iload_n C dX5_hours_0 1 1 rfl rfl ?_
  refine r_i2l C dX5_hours_1 ?_
  refine r_lconst (v := 1) C dX5_hours_2 (by decide) ?_
  refine r_ldc2 (v := 72) C dX5_hours_3 wd_990 ?_
  refine r_callS (rest := []) (st2 := [.int (fX5_in (Int32.toInt64 x1) 1 72)]) C (mX5_in (eL E) C.z _ _ (Int32.toInt64 x1) 1 72) lk_X5_44 (by decide) rfl rfl (Nat.le_of_ble_eq_true rfl) dX5_hours_6 rfl ?_
  refine r_if_ne (tgt := 19) C dX5_hours_9 (by decide) (fun c1 => ?_) (fun c1 => ?_)
  · refine r_aload_n C dX5_hours_19 0 0 rfl rfl ?_
    refine gf_X5_7 C dX5_hours_20 ?_
    refine r_iconst (v := 0) C dX5_hours_23 (by decide) ?_
    refine ald_M (v := (M 0 0)) C mI_0 (by decide) rfl dX5_hours_24 ?_
    refine r_iload_n C dX5_hours_25 1 1 rfl rfl ?_
    refine r_iadd C dX5_hours_26 ?_
    refine r_sipush (v := 9999) C dX5_hours_27 (by decide) ?_
    refine r_ic_le (tgt := 40) C dX5_hours_30 (by decide) (fun c2 => ?_) (fun c2 => ?_)
    · refine r_aload_n C dX5_hours_40 0 0 rfl rfl ?_
      refine r_iload_n C dX5_hours_41 1 1 rfl rfl ?_
      refine r_bind (fun a3 ha3 => ?_)
      refine r_callV (rest := []) (st2 := []) C (mX5_go (eL E) C.z M _ (M 0) x1 a3 ha3).selfW lk_X5_160 (rvM C) (by decide) rfl rfl (Nat.le_of_ble_eq_true rfl) dX5_hours_42 rfl ?_
      refine r_aload_n C dX5_hours_45 0 0 rfl rfl ?_
      refine r_bind (fun a4 ha4 => ?_)
      refine r_callV (rest := []) (st2 := [.int a4]) C (mX5_allBooks (eL E) C.z M _ a3 a4 ha4) lk_X5_163 (rvM C) (by decide) rfl rfl (Nat.le_of_ble_eq_true rfl) dX5_hours_46 rfl ?_
      exact r_iret C dX5_hours_49 rfl
    · refine r_aload_n C dX5_hours_33 0 0 rfl rfl ?_
      refine r_ldc (v := (-1000000005)) C dX5_hours_34 wd_980 ?_
      refine r_bind (fun a5 ha5 => ?_)
      refine r_callV (rest := []) (st2 := [.int a5.1]) C (mX5_finds (eL E) C.z M N (-1000000005) a5 ha5) lk_X5_65 (rvM C) (by decide) rfl rfl (Nat.le_of_ble_eq_true rfl) dX5_hours_36 rfl ?_
      exact r_iret C dX5_hours_39 rfl
  · refine r_aload_n C dX5_hours_12 0 0 rfl rfl ?_
    refine r_ldc (v := (-1000000001)) C dX5_hours_13 wd_859 ?_
    refine r_bind (fun a6 ha6 => ?_)
    refine r_callV (rest := []) (st2 := [.int a6.1]) C (mX5_finds (eL E) C.z M N (-1000000001) a6 ha6) lk_X5_65 (rvM C) (by decide) rfl rfl (Nat.le_of_ble_eq_true rfl) dX5_hours_15 rfl ?_
    exact r_iret C dX5_hours_18 rfl
theorem mX5_hours (l : Launch) {Z : Zt} (hZ : Zok 2 Z) (M : Mi) (N : Ml) (x1 : Int32) (b : Int32 × Mi) (hb : fX5_hours M x1 = some b) : Ct 2 Z l yX5_hours cX5_hours 2 (some .int) 6 [.ref (zA Z 6 0), .int x1] M N (some (Value.int b.1), b.2, N) :=
  metG (fin := (finX5_hours N)) (by decide) (Nat.le_of_ble_eq_true rfl) (fun E _ C => bX5_hours C M x1) hb
theorem dX5_allSubjects_0 : decode cX5_allSubjects 0 = .ok (.iconst 0, 1) := by decide +kernel
theorem dX5_allSubjects_1 : decode cX5_allSubjects 1 = .ok (.istore_n 1, 1) := by decide +kernel
theorem dX5_allSubjects_2 : decode cX5_allSubjects 2 = .ok (.iconst 0, 1) := by decide +kernel
theorem dX5_allSubjects_3 : decode cX5_allSubjects 3 = .ok (.istore_n 2, 1) := by decide +kernel
theorem dX5_allSubjects_4 : decode cX5_allSubjects 4 = .ok (.iload_n 2, 1) := by decide +kernel
theorem dX5_allSubjects_5 : decode cX5_allSubjects 5 = .ok (.aload_n 0, 1) := by decide +kernel
theorem dX5_allSubjects_6 : decode cX5_allSubjects 6 = .ok (.getfield 7, 3) := by decide +kernel
theorem dX5_allSubjects_9 : decode cX5_allSubjects 9 = .ok (.iconst 1, 1) := by decide +kernel
theorem dX5_allSubjects_10 : decode cX5_allSubjects 10 = .ok (.iaload, 1) := by decide +kernel
theorem dX5_allSubjects_11 : decode cX5_allSubjects 11 = .ok (.if_icmp .ge 18, 3) := by decide +kernel
theorem dX5_allSubjects_14 : decode cX5_allSubjects 14 = .ok (.iload_n 1, 1) := by decide +kernel
theorem dX5_allSubjects_15 : decode cX5_allSubjects 15 = .ok (.aload_n 0, 1) := by decide +kernel
theorem dX5_allSubjects_16 : decode cX5_allSubjects 16 = .ok (.iload_n 2, 1) := by decide +kernel
theorem dX5_allSubjects_17 : decode cX5_allSubjects 17 = .ok (.iconst 2, 1) := by decide +kernel
theorem dX5_allSubjects_18 : decode cX5_allSubjects 18 = .ok (.invokevirtual 83, 3) := by decide +kernel
theorem dX5_allSubjects_21 : decode cX5_allSubjects 21 = .ok (.ior, 1) := by decide +kernel
theorem dX5_allSubjects_22 : decode cX5_allSubjects 22 = .ok (.istore_n 1, 1) := by decide +kernel
theorem dX5_allSubjects_23 : decode cX5_allSubjects 23 = .ok (.iinc 2 1, 3) := by decide +kernel
theorem dX5_allSubjects_26 : decode cX5_allSubjects 26 = .ok (.goto (-22), 3) := by decide +kernel
theorem dX5_allSubjects_29 : decode cX5_allSubjects 29 = .ok (.iload_n 1, 1) := by decide +kernel
theorem dX5_allSubjects_30 : decode cX5_allSubjects 30 = .ok (.ireturn, 1) := by decide +kernel
def finX5_allSubjects (M0 : Mi) (σ : Nat → Int32) (N : Ml) : Int32 → Option Value × Mi × Ml := fun b => (some (Value.int b), sR M0 0 σ, N)
noncomputable def fX5_allSubjects_4 (σ : Nat → Int32)  : Nat → Int32 → Int32 → Option (Int32)
  | 0 => fun _ _ => none
  | n + 1 => fun x1 x2 => (if (σ 1) ≤ x2 then (some x1) else (Option.bind (fX5_its σ x2 2) (fun a2 => ((fX5_allSubjects_4 σ n) (x1 ||| a2) (x2 + 1)))))
theorem bX5_allSubjects_4 {Z : Zt} {E : Ec} {M0 : Mi} {σ : Nat → Int32} {N : Ml} (C : Ok 2 Z E cX5_allSubjects 3 RX5 (some .int) 2)    : ∀ (n : Nat) (x1 : Int32) (x2 : Int32), GT Z E 3 (finX5_allSubjects M0 σ N) 4 [(0, .ref (zA Z 6 0)), (1, .int x1), (2, .int x2)] [] (sR M0 0 σ) N (fX5_allSubjects_4 σ n x1 x2) := by
  intro n
  induction n with
  | zero => intro x1 x2; exact r_none
  | succ n ih =>
    intro x1 x2
    rw [fX5_allSubjects_4]
    refine r_iload_n C dX5_allSubjects_4 2 2 rfl rfl ?_
    refine r_aload_n C dX5_allSubjects_5 0 0 rfl rfl ?_
    refine gf_X5_7 C dX5_allSubjects_6 ?_
    refine r_iconst (v := 1) C dX5_allSubjects_9 (by decide) ?_
    refine ald_M (v := (σ 1)) C mI_0 (by decide) (sR_at _ _ _ _) dX5_allSubjects_10 ?_
    refine r_ic_ge (tgt := 29) C dX5_allSubjects_11 (by decide) (fun c1 => ?_) (fun c1 => ?_)
    · refine r_iload_n C dX5_allSubjects_29 1 1 rfl rfl ?_
      exact r_iret C dX5_allSubjects_30 rfl
    · refine r_iload_n C dX5_allSubjects_14 1 1 rfl rfl ?_
      refine r_aload_n C dX5_allSubjects_15 0 0 rfl rfl ?_
      refine r_iload_n C dX5_allSubjects_16 2 2 rfl rfl ?_
      refine r_iconst (v := 2) C dX5_allSubjects_17 (by decide) ?_
      refine r_bind (fun a2 ha2 => ?_)
      refine r_callV (rest := [.int x1]) (st2 := [.int a2, .int x1]) C (mX5_its (eL E) C.z _ _ σ x2 2 a2 ha2) lk_X5_83 (rvM C) (by decide) rfl rfl (Nat.le_of_ble_eq_true rfl) dX5_allSubjects_18 rfl ?_
      refine r_ior C dX5_allSubjects_21 ?_
      refine r_istore_n (lv' := [(1, .int (x1 ||| a2)), (0, .ref (zA Z 6 0)), (2, .int x2)]) C dX5_allSubjects_22 1 rfl (by decide) rfl ?_
      refine r_iinc (v := (x2 + 1)) (lv' := [(2, .int (x2 + 1)), (1, .int (x1 ||| a2)), (0, .ref (zA Z 6 0))]) C dX5_allSubjects_23 2 rfl rfl (by decide) rfl ?_
      refine r_goto (tgt := 4) C dX5_allSubjects_26 (by decide) ?_
      refine r_lv [2, 1, 0] (lv' := [(0, .ref (zA Z 6 0)), (1, .int (x1 ||| a2)), (2, .int (x2 + 1))]) rfl ?_
      exact ih (x1 ||| a2) (x2 + 1)
noncomputable def fX5_allSubjects (σ : Nat → Int32)   : Option (Int32) := (fX5_allSubjects_4 σ fu 0 0)
theorem bX5_allSubjects {Z : Zt} {E : Ec} {M0 : Mi} {σ : Nat → Int32} {N : Ml} (C : Ok 2 Z E cX5_allSubjects 3 RX5 (some .int) 2)      : GT Z E 3 (finX5_allSubjects M0 σ N) 0 [(0, .ref (zA Z 6 0))] [] (sR M0 0 σ) N (fX5_allSubjects σ ) := by
  unfold fX5_allSubjects
  refine r_iconst (v := 0) C dX5_allSubjects_0 (by decide) ?_
  refine r_istore_n (lv' := [(1, .int 0), (0, .ref (zA Z 6 0))]) C dX5_allSubjects_1 1 rfl (by decide) rfl ?_
  refine r_iconst (v := 0) C dX5_allSubjects_2 (by decide) ?_
  refine r_istore_n (lv' := [(2, .int 0), (1, .int 0), (0, .ref (zA Z 6 0))]) C dX5_allSubjects_3 2 rfl (by decide) rfl ?_
  refine r_lv [2, 1, 0] (lv' := [(0, .ref (zA Z 6 0)), (1, .int 0), (2, .int 0)]) rfl ?_
  exact bX5_allSubjects_4 C fu 0 0
theorem mX5_allSubjects (l : Launch) {Z : Zt} (hZ : Zok 2 Z) (M0 : Mi) (N : Ml) (σ : Nat → Int32) (b : Int32) (hb : fX5_allSubjects σ = some b) : Ct 2 Z l yX5_allSubjects cX5_allSubjects 3 (some .int) 2 [.ref (zA Z 6 0)] (sR M0 0 σ) N (some (Value.int b), sR M0 0 σ, N) :=
  metG (fin := (finX5_allSubjects M0 σ N)) (by decide) (Nat.le_of_ble_eq_true rfl) (fun E _ C => bX5_allSubjects C) hb
theorem dX5_allCells_0 : decode cX5_allCells 0 = .ok (.iconst 0, 1) := by decide +kernel
theorem dX5_allCells_1 : decode cX5_allCells 1 = .ok (.istore_n 1, 1) := by decide +kernel
theorem dX5_allCells_2 : decode cX5_allCells 2 = .ok (.iconst 0, 1) := by decide +kernel
theorem dX5_allCells_3 : decode cX5_allCells 3 = .ok (.istore_n 2, 1) := by decide +kernel
theorem dX5_allCells_4 : decode cX5_allCells 4 = .ok (.iload_n 2, 1) := by decide +kernel
theorem dX5_allCells_5 : decode cX5_allCells 5 = .ok (.aload_n 0, 1) := by decide +kernel
theorem dX5_allCells_6 : decode cX5_allCells 6 = .ok (.getfield 7, 3) := by decide +kernel
theorem dX5_allCells_9 : decode cX5_allCells 9 = .ok (.iconst 1, 1) := by decide +kernel
theorem dX5_allCells_10 : decode cX5_allCells 10 = .ok (.iaload, 1) := by decide +kernel
theorem dX5_allCells_11 : decode cX5_allCells 11 = .ok (.if_icmp .ge 20, 3) := by decide +kernel
theorem dX5_allCells_14 : decode cX5_allCells 14 = .ok (.iload_n 1, 1) := by decide +kernel
theorem dX5_allCells_15 : decode cX5_allCells 15 = .ok (.iconst 1, 1) := by decide +kernel
theorem dX5_allCells_16 : decode cX5_allCells 16 = .ok (.aload_n 0, 1) := by decide +kernel
theorem dX5_allCells_17 : decode cX5_allCells 17 = .ok (.iload_n 2, 1) := by decide +kernel
theorem dX5_allCells_18 : decode cX5_allCells 18 = .ok (.iconst 1, 1) := by decide +kernel
theorem dX5_allCells_19 : decode cX5_allCells 19 = .ok (.invokevirtual 83, 3) := by decide +kernel
theorem dX5_allCells_22 : decode cX5_allCells 22 = .ok (.ishl, 1) := by decide +kernel
theorem dX5_allCells_23 : decode cX5_allCells 23 = .ok (.ior, 1) := by decide +kernel
theorem dX5_allCells_24 : decode cX5_allCells 24 = .ok (.istore_n 1, 1) := by decide +kernel
theorem dX5_allCells_25 : decode cX5_allCells 25 = .ok (.iinc 2 1, 3) := by decide +kernel
theorem dX5_allCells_28 : decode cX5_allCells 28 = .ok (.goto (-24), 3) := by decide +kernel
theorem dX5_allCells_31 : decode cX5_allCells 31 = .ok (.iload_n 1, 1) := by decide +kernel
theorem dX5_allCells_32 : decode cX5_allCells 32 = .ok (.ireturn, 1) := by decide +kernel
def finX5_allCells (M0 : Mi) (σ : Nat → Int32) (N : Ml) : Int32 → Option Value × Mi × Ml := fun b => (some (Value.int b), sR M0 0 σ, N)
noncomputable def fX5_allCells_4 (σ : Nat → Int32)  : Nat → Int32 → Int32 → Option (Int32)
  | 0 => fun _ _ => none
  | n + 1 => fun x1 x2 => (if (σ 1) ≤ x2 then (some x1) else (Option.bind (fX5_its σ x2 1) (fun a2 => ((fX5_allCells_4 σ n) (x1 ||| (1 <<< (a2 &&& 31))) (x2 + 1)))))
theorem bX5_allCells_4 {Z : Zt} {E : Ec} {M0 : Mi} {σ : Nat → Int32} {N : Ml} (C : Ok 2 Z E cX5_allCells 3 RX5 (some .int) 2)    : ∀ (n : Nat) (x1 : Int32) (x2 : Int32), GT Z E 3 (finX5_allCells M0 σ N) 4 [(0, .ref (zA Z 6 0)), (1, .int x1), (2, .int x2)] [] (sR M0 0 σ) N (fX5_allCells_4 σ n x1 x2) := by
  intro n
  induction n with
  | zero => intro x1 x2; exact r_none
  | succ n ih =>
    intro x1 x2
    rw [fX5_allCells_4]
    refine r_iload_n C dX5_allCells_4 2 2 rfl rfl ?_
    refine r_aload_n C dX5_allCells_5 0 0 rfl rfl ?_
    refine gf_X5_7 C dX5_allCells_6 ?_
    refine r_iconst (v := 1) C dX5_allCells_9 (by decide) ?_
    refine ald_M (v := (σ 1)) C mI_0 (by decide) (sR_at _ _ _ _) dX5_allCells_10 ?_
    refine r_ic_ge (tgt := 31) C dX5_allCells_11 (by decide) (fun c1 => ?_) (fun c1 => ?_)
    · refine r_iload_n C dX5_allCells_31 1 1 rfl rfl ?_
      exact r_iret C dX5_allCells_32 rfl
    · refine r_iload_n C dX5_allCells_14 1 1 rfl rfl ?_
      refine r_iconst (v := 1) C dX5_allCells_15 (by decide) ?_
      refine r_aload_n C dX5_allCells_16 0 0 rfl rfl ?_
      refine r_iload_n C dX5_allCells_17 2 2 rfl rfl ?_
      refine r_iconst (v := 1) C dX5_allCells_18 (by decide) ?_
      refine r_bind (fun a2 ha2 => ?_)
      refine r_callV (rest := [.int 1, .int x1]) (st2 := [.int a2, .int 1, .int x1]) C (mX5_its (eL E) C.z _ _ σ x2 1 a2 ha2) lk_X5_83 (rvM C) (by decide) rfl rfl (Nat.le_of_ble_eq_true rfl) dX5_allCells_19 rfl ?_
      refine r_ishl C dX5_allCells_22 ?_
      refine r_ior C dX5_allCells_23 ?_
      refine r_istore_n (lv' := [(1, .int (x1 ||| (1 <<< (a2 &&& 31)))), (0, .ref (zA Z 6 0)), (2, .int x2)]) C dX5_allCells_24 1 rfl (by decide) rfl ?_
      refine r_iinc (v := (x2 + 1)) (lv' := [(2, .int (x2 + 1)), (1, .int (x1 ||| (1 <<< (a2 &&& 31)))), (0, .ref (zA Z 6 0))]) C dX5_allCells_25 2 rfl rfl (by decide) rfl ?_
      refine r_goto (tgt := 4) C dX5_allCells_28 (by decide) ?_
      refine r_lv [2, 1, 0] (lv' := [(0, .ref (zA Z 6 0)), (1, .int (x1 ||| (1 <<< (a2 &&& 31)))), (2, .int (x2 + 1))]) rfl ?_
      exact ih (x1 ||| (1 <<< (a2 &&& 31))) (x2 + 1)
noncomputable def fX5_allCells (σ : Nat → Int32)   : Option (Int32) := (fX5_allCells_4 σ fu 0 0)
theorem bX5_allCells {Z : Zt} {E : Ec} {M0 : Mi} {σ : Nat → Int32} {N : Ml} (C : Ok 2 Z E cX5_allCells 3 RX5 (some .int) 2)      : GT Z E 3 (finX5_allCells M0 σ N) 0 [(0, .ref (zA Z 6 0))] [] (sR M0 0 σ) N (fX5_allCells σ ) := by
  unfold fX5_allCells
  refine r_iconst (v := 0) C dX5_allCells_0 (by decide) ?_
  refine r_istore_n (lv' := [(1, .int 0), (0, .ref (zA Z 6 0))]) C dX5_allCells_1 1 rfl (by decide) rfl ?_
  refine r_iconst (v := 0) C dX5_allCells_2 (by decide) ?_
  refine r_istore_n (lv' := [(2, .int 0), (1, .int 0), (0, .ref (zA Z 6 0))]) C dX5_allCells_3 2 rfl (by decide) rfl ?_
  refine r_lv [2, 1, 0] (lv' := [(0, .ref (zA Z 6 0)), (1, .int 0), (2, .int 0)]) rfl ?_
  exact bX5_allCells_4 C fu 0 0
theorem mX5_allCells (l : Launch) {Z : Zt} (hZ : Zok 2 Z) (M0 : Mi) (N : Ml) (σ : Nat → Int32) (b : Int32) (hb : fX5_allCells σ = some b) : Ct 2 Z l yX5_allCells cX5_allCells 3 (some .int) 2 [.ref (zA Z 6 0)] (sR M0 0 σ) N (some (Value.int b), sR M0 0 σ, N) :=
  metG (fin := (finX5_allCells M0 σ N)) (by decide) (Nat.le_of_ble_eq_true rfl) (fun E _ C => bX5_allCells C) hb
