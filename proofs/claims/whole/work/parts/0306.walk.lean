theorem dX5_lends_0 : decode cX5_lends 0 = .ok (.aload_n 0, 1) := by decide +kernel
theorem dX5_lends_1 : decode cX5_lends 1 = .ok (.getfield 7, 3) := by decide +kernel
theorem dX5_lends_4 : decode cX5_lends 4 = .ok (.iload_n 1, 1) := by decide +kernel
theorem dX5_lends_5 : decode cX5_lends 5 = .ok (.iconst 2, 1) := by decide +kernel
theorem dX5_lends_6 : decode cX5_lends 6 = .ok (.invokestatic 58, 3) := by decide +kernel
theorem dX5_lends_9 : decode cX5_lends 9 = .ok (.dup2, 1) := by decide +kernel
theorem dX5_lends_10 : decode cX5_lends 10 = .ok (.iaload, 1) := by decide +kernel
theorem dX5_lends_11 : decode cX5_lends 11 = .ok (.iconst 1, 1) := by decide +kernel
theorem dX5_lends_12 : decode cX5_lends 12 = .ok (.iload_n 3, 1) := by decide +kernel
theorem dX5_lends_13 : decode cX5_lends 13 = .ok (.ishl, 1) := by decide +kernel
theorem dX5_lends_14 : decode cX5_lends 14 = .ok (.iconst (-1), 1) := by decide +kernel
theorem dX5_lends_15 : decode cX5_lends 15 = .ok (.ixor, 1) := by decide +kernel
theorem dX5_lends_16 : decode cX5_lends 16 = .ok (.iand, 1) := by decide +kernel
theorem dX5_lends_17 : decode cX5_lends 17 = .ok (.iastore, 1) := by decide +kernel
theorem dX5_lends_18 : decode cX5_lends 18 = .ok (.aload_n 0, 1) := by decide +kernel
theorem dX5_lends_19 : decode cX5_lends 19 = .ok (.getfield 7, 3) := by decide +kernel
theorem dX5_lends_22 : decode cX5_lends 22 = .ok (.iload_n 2, 1) := by decide +kernel
theorem dX5_lends_23 : decode cX5_lends 23 = .ok (.iconst 2, 1) := by decide +kernel
theorem dX5_lends_24 : decode cX5_lends 24 = .ok (.invokestatic 58, 3) := by decide +kernel
theorem dX5_lends_27 : decode cX5_lends 27 = .ok (.dup2, 1) := by decide +kernel
theorem dX5_lends_28 : decode cX5_lends 28 = .ok (.iaload, 1) := by decide +kernel
theorem dX5_lends_29 : decode cX5_lends 29 = .ok (.iconst 1, 1) := by decide +kernel
theorem dX5_lends_30 : decode cX5_lends 30 = .ok (.iload_n 3, 1) := by decide +kernel
theorem dX5_lends_31 : decode cX5_lends 31 = .ok (.ishl, 1) := by decide +kernel
theorem dX5_lends_32 : decode cX5_lends 32 = .ok (.ior, 1) := by decide +kernel
theorem dX5_lends_33 : decode cX5_lends 33 = .ok (.iastore, 1) := by decide +kernel
theorem dX5_lends_34 : decode cX5_lends 34 = .ok (.return_, 1) := by decide +kernel
def finX5_lends (M0 : Mi) (N : Ml) : (Nat → Int32) → Option Value × Mi × Ml := fun b => (none, sR M0 0 (b), N)
noncomputable def fX5_lends   (σ : Nat → Int32) (x1 : Int32) (x2 : Int32) (x3 : Int32) : Option ((Nat → Int32)) := (if inb (fX5_spotOf x1 2) 39 then (if inb (fX5_spotOf x2 2) 39 then (some (upd (upd σ (ix (fX5_spotOf x1 2)) ((σ (ix (fX5_spotOf x1 2))) &&& ((1 <<< (x3 &&& 31)) ^^^ (-1)))) (ix (fX5_spotOf x2 2)) (((upd σ (ix (fX5_spotOf x1 2)) ((σ (ix (fX5_spotOf x1 2))) &&& ((1 <<< (x3 &&& 31)) ^^^ (-1)))) (ix (fX5_spotOf x2 2))) ||| (1 <<< (x3 &&& 31))))) else none) else none)
theorem bX5_lends {Z : Zt} {E : Ec} {M0 : Mi} {N : Ml} (C : Ok 2 Z E cX5_lends 4 RX5 none 1)    (σ : Nat → Int32) (x1 : Int32) (x2 : Int32) (x3 : Int32)  : GT Z E 4 (finX5_lends M0 N) 0 [(0, .ref (zA Z 6 0)), (1, .int x1), (2, .int x2), (3, .int x3)] [] (sR M0 0 σ) N (fX5_lends σ x1 x2 x3) := by
  unfold fX5_lends
  refine r_aload_n C dX5_lends_0 0 0 rfl rfl ?_
  refine gf_X5_7 C dX5_lends_1 ?_
  refine r_iload_n C dX5_lends_4 1 1 rfl rfl ?_
  refine r_iconst (v := 2) C dX5_lends_5 (by decide) ?_
  refine r_callS (rest := [.ref (zA Z 0 0)]) (st2 := [.int (fX5_spotOf x1 2), .ref (zA Z 0 0)]) C (mX5_spotOf (eL E) C.z _ _ x1 2) lk_X5_58 (by decide) rfl rfl (Nat.le_of_ble_eq_true rfl) dX5_lends_6 rfl ?_
  refine r_dup2 C dX5_lends_9 rfl rfl ?_
  refine r_guard (fun h1 => ?_)
  refine ald_M (v := (σ (ix (fX5_spotOf x1 2)))) C mI_0 h1 (sR_at _ _ _ _) dX5_lends_10 ?_
  refine r_iconst (v := 1) C dX5_lends_11 (by decide) ?_
  refine r_iload_n C dX5_lends_12 3 3 rfl rfl ?_
  refine r_ishl C dX5_lends_13 ?_
  refine r_iconst (v := (-1)) C dX5_lends_14 (by decide) ?_
  refine r_ixor C dX5_lends_15 ?_
  refine r_iand C dX5_lends_16 ?_
  refine ast_M (M' := (sR M0 0 (upd σ (ix (fX5_spotOf x1 2)) ((σ (ix (fX5_spotOf x1 2))) &&& ((1 <<< (x3 &&& 31)) ^^^ (-1)))))) C mI_0 h1 (wM_sR _ _ _ _ _) dX5_lends_17 ?_
  refine r_aload_n C dX5_lends_18 0 0 rfl rfl ?_
  refine gf_X5_7 C dX5_lends_19 ?_
  refine r_iload_n C dX5_lends_22 2 2 rfl rfl ?_
  refine r_iconst (v := 2) C dX5_lends_23 (by decide) ?_
  refine r_callS (rest := [.ref (zA Z 0 0)]) (st2 := [.int (fX5_spotOf x2 2), .ref (zA Z 0 0)]) C (mX5_spotOf (eL E) C.z _ _ x2 2) lk_X5_58 (by decide) rfl rfl (Nat.le_of_ble_eq_true rfl) dX5_lends_24 rfl ?_
  refine r_dup2 C dX5_lends_27 rfl rfl ?_
  refine r_guard (fun h2 => ?_)
  refine ald_M (v := ((upd σ (ix (fX5_spotOf x1 2)) ((σ (ix (fX5_spotOf x1 2))) &&& ((1 <<< (x3 &&& 31)) ^^^ (-1)))) (ix (fX5_spotOf x2 2)))) C mI_0 h2 (sR_at _ _ _ _) dX5_lends_28 ?_
  refine r_iconst (v := 1) C dX5_lends_29 (by decide) ?_
  refine r_iload_n C dX5_lends_30 3 3 rfl rfl ?_
  refine r_ishl C dX5_lends_31 ?_
  refine r_ior C dX5_lends_32 ?_
  refine ast_M (M' := (sR M0 0 (upd (upd σ (ix (fX5_spotOf x1 2)) ((σ (ix (fX5_spotOf x1 2))) &&& ((1 <<< (x3 &&& 31)) ^^^ (-1)))) (ix (fX5_spotOf x2 2)) (((upd σ (ix (fX5_spotOf x1 2)) ((σ (ix (fX5_spotOf x1 2))) &&& ((1 <<< (x3 &&& 31)) ^^^ (-1)))) (ix (fX5_spotOf x2 2))) ||| (1 <<< (x3 &&& 31)))))) C mI_0 h2 (wM_sR _ _ _ _ _) dX5_lends_33 ?_
  exact r_vret C dX5_lends_34 rfl
theorem mX5_lends (l : Launch) {Z : Zt} (hZ : Zok 2 Z) (M0 : Mi) (N : Ml) (σ : Nat → Int32) (x1 : Int32) (x2 : Int32) (x3 : Int32) (b : (Nat → Int32)) (hb : fX5_lends σ x1 x2 x3 = some b) : Ct 2 Z l yX5_lends cX5_lends 4 none 1 [.ref (zA Z 6 0), .int x1, .int x2, .int x3] (sR M0 0 σ) N (none, sR M0 0 (b), N) :=
  metG (fin := (finX5_lends M0 N)) (by decide) (Nat.le_of_ble_eq_true rfl) (fun E _ C => bX5_lends C σ x1 x2 x3) hb
theorem dX5_lend_0 : decode cX5_lend 0 = .ok (.aload_n 0, 1) := by decide +kernel
theorem dX5_lend_1 : decode cX5_lend 1 = .ok (.iload_n 1, 1) := by decide +kernel
theorem dX5_lend_2 : decode cX5_lend 2 = .ok (.iload_n 2, 1) := by decide +kernel
theorem dX5_lend_3 : decode cX5_lend 3 = .ok (.invokevirtual 129, 3) := by decide +kernel
theorem dX5_lend_6 : decode cX5_lend 6 = .ok (.ifCond .eq 10, 3) := by decide +kernel
theorem dX5_lend_9 : decode cX5_lend 9 = .ok (.iload_n 3, 1) := by decide +kernel
theorem dX5_lend_10 : decode cX5_lend 10 = .ok (.invokestatic 133, 3) := by decide +kernel
theorem dX5_lend_13 : decode cX5_lend 13 = .ok (.ifCond .ne 10, 3) := by decide +kernel
theorem dX5_lend_16 : decode cX5_lend 16 = .ok (.aload_n 0, 1) := by decide +kernel
theorem dX5_lend_17 : decode cX5_lend 17 = .ok (.ldc 41, 2) := by decide +kernel
theorem dX5_lend_19 : decode cX5_lend 19 = .ok (.invokevirtual 65, 3) := by decide +kernel
theorem dX5_lend_22 : decode cX5_lend 22 = .ok (.ireturn, 1) := by decide +kernel
theorem dX5_lend_23 : decode cX5_lend 23 = .ok (.aload_n 0, 1) := by decide +kernel
theorem dX5_lend_24 : decode cX5_lend 24 = .ok (.iload_n 1, 1) := by decide +kernel
theorem dX5_lend_25 : decode cX5_lend 25 = .ok (.iconst 1, 1) := by decide +kernel
theorem dX5_lend_26 : decode cX5_lend 26 = .ok (.invokevirtual 83, 3) := by decide +kernel
theorem dX5_lend_29 : decode cX5_lend 29 = .ok (.aload_n 0, 1) := by decide +kernel
theorem dX5_lend_30 : decode cX5_lend 30 = .ok (.iload_n 2, 1) := by decide +kernel
theorem dX5_lend_31 : decode cX5_lend 31 = .ok (.iconst 1, 1) := by decide +kernel
theorem dX5_lend_32 : decode cX5_lend 32 = .ok (.invokevirtual 83, 3) := by decide +kernel
theorem dX5_lend_35 : decode cX5_lend 35 = .ok (.if_icmp .eq 10, 3) := by decide +kernel
theorem dX5_lend_38 : decode cX5_lend 38 = .ok (.aload_n 0, 1) := by decide +kernel
theorem dX5_lend_39 : decode cX5_lend 39 = .ok (.ldc 136, 2) := by decide +kernel
theorem dX5_lend_41 : decode cX5_lend 41 = .ok (.invokevirtual 65, 3) := by decide +kernel
theorem dX5_lend_44 : decode cX5_lend 44 = .ok (.ireturn, 1) := by decide +kernel
theorem dX5_lend_45 : decode cX5_lend 45 = .ok (.aload_n 0, 1) := by decide +kernel
theorem dX5_lend_46 : decode cX5_lend 46 = .ok (.iload_n 1, 1) := by decide +kernel
theorem dX5_lend_47 : decode cX5_lend 47 = .ok (.iconst 2, 1) := by decide +kernel
theorem dX5_lend_48 : decode cX5_lend 48 = .ok (.invokevirtual 83, 3) := by decide +kernel
theorem dX5_lend_51 : decode cX5_lend 51 = .ok (.iload_n 3, 1) := by decide +kernel
theorem dX5_lend_52 : decode cX5_lend 52 = .ok (.ishr, 1) := by decide +kernel
theorem dX5_lend_53 : decode cX5_lend 53 = .ok (.iconst 1, 1) := by decide +kernel
theorem dX5_lend_54 : decode cX5_lend 54 = .ok (.iand, 1) := by decide +kernel
theorem dX5_lend_55 : decode cX5_lend 55 = .ok (.ifCond .eq 17, 3) := by decide +kernel
theorem dX5_lend_58 : decode cX5_lend 58 = .ok (.aload_n 0, 1) := by decide +kernel
theorem dX5_lend_59 : decode cX5_lend 59 = .ok (.iload_n 2, 1) := by decide +kernel
theorem dX5_lend_60 : decode cX5_lend 60 = .ok (.iconst 2, 1) := by decide +kernel
theorem dX5_lend_61 : decode cX5_lend 61 = .ok (.invokevirtual 83, 3) := by decide +kernel
theorem dX5_lend_64 : decode cX5_lend 64 = .ok (.iload_n 3, 1) := by decide +kernel
theorem dX5_lend_65 : decode cX5_lend 65 = .ok (.ishr, 1) := by decide +kernel
theorem dX5_lend_66 : decode cX5_lend 66 = .ok (.iconst 1, 1) := by decide +kernel
theorem dX5_lend_67 : decode cX5_lend 67 = .ok (.iand, 1) := by decide +kernel
theorem dX5_lend_68 : decode cX5_lend 68 = .ok (.iconst 1, 1) := by decide +kernel
theorem dX5_lend_69 : decode cX5_lend 69 = .ok (.if_icmp .ne 10, 3) := by decide +kernel
theorem dX5_lend_72 : decode cX5_lend 72 = .ok (.aload_n 0, 1) := by decide +kernel
theorem dX5_lend_73 : decode cX5_lend 73 = .ok (.ldc 137, 2) := by decide +kernel
theorem dX5_lend_75 : decode cX5_lend 75 = .ok (.invokevirtual 65, 3) := by decide +kernel
theorem dX5_lend_78 : decode cX5_lend 78 = .ok (.ireturn, 1) := by decide +kernel
theorem dX5_lend_79 : decode cX5_lend 79 = .ok (.aload_n 0, 1) := by decide +kernel
theorem dX5_lend_80 : decode cX5_lend 80 = .ok (.iload_n 1, 1) := by decide +kernel
theorem dX5_lend_81 : decode cX5_lend 81 = .ok (.iload_n 2, 1) := by decide +kernel
theorem dX5_lend_82 : decode cX5_lend 82 = .ok (.iload_n 3, 1) := by decide +kernel
theorem dX5_lend_83 : decode cX5_lend 83 = .ok (.invokevirtual 138, 3) := by decide +kernel
theorem dX5_lend_86 : decode cX5_lend 86 = .ok (.iconst 1, 1) := by decide +kernel
theorem dX5_lend_87 : decode cX5_lend 87 = .ok (.ireturn, 1) := by decide +kernel
def finX5_lend (N : Ml) : Int32 × Mi → Option Value × Mi × Ml := fun b => (some (Value.int b.1), b.2, N)
noncomputable def fX5_lend_16   (M : Mi) : Option (Int32 × Mi) := (Option.bind (fX5_finds M (-1000000001)) (fun a2 => (some (a2.1, (a2.2)))))
theorem bX5_lend_16 {Z : Zt} {E : Ec} {N : Ml} (C : Ok 2 Z E cX5_lend 4 RX5 (some .int) 3)    (M : Mi)  : GT Z E 4 (finX5_lend N) 16 [(0, .ref (zA Z 6 0))] [] M N (fX5_lend_16 M) := by
  unfold fX5_lend_16
  refine r_aload_n C dX5_lend_16 0 0 rfl rfl ?_
  refine r_ldc (v := (-1000000001)) C dX5_lend_17 wd_859 ?_
  refine r_bind (fun a2 ha2 => ?_)
  refine r_callV (rest := []) (st2 := [.int a2.1]) C (mX5_finds (eL E) C.z M N (-1000000001) a2 ha2) lk_X5_65 (rvM C) (by decide) rfl rfl (Nat.le_of_ble_eq_true rfl) dX5_lend_19 rfl ?_
  exact r_iret C dX5_lend_22 rfl
noncomputable def fX5_lend_72   (M : Mi) : Option (Int32 × Mi) := (Option.bind (fX5_finds M (-1000000004)) (fun a9 => (some (a9.1, (a9.2)))))
theorem bX5_lend_72 {Z : Zt} {E : Ec} {N : Ml} (C : Ok 2 Z E cX5_lend 4 RX5 (some .int) 3)    (M : Mi)  : GT Z E 4 (finX5_lend N) 72 [(0, .ref (zA Z 6 0))] [] M N (fX5_lend_72 M) := by
  unfold fX5_lend_72
  refine r_aload_n C dX5_lend_72 0 0 rfl rfl ?_
  refine r_ldc (v := (-1000000004)) C dX5_lend_73 wd_981 ?_
  refine r_bind (fun a9 ha9 => ?_)
  refine r_callV (rest := []) (st2 := [.int a9.1]) C (mX5_finds (eL E) C.z M N (-1000000004) a9 ha9) lk_X5_65 (rvM C) (by decide) rfl rfl (Nat.le_of_ble_eq_true rfl) dX5_lend_75 rfl ?_
  exact r_iret C dX5_lend_78 rfl
noncomputable def fX5_lend   (M : Mi) (x1 : Int32) (x2 : Int32) (x3 : Int32) : Option (Int32 × Mi) := (if (fX5_areTwo (M 0) x1 x2) = 0 then (fX5_lend_16 M) else (if (fX5_isSubject x3) = 0 then (fX5_lend_16 M) else (Option.bind (fX5_its (M 0) x1 1) (fun a4 => (Option.bind (fX5_its (M 0) x2 1) (fun a5 => (if a4 = a5 then (Option.bind (fX5_its (M 0) x1 2) (fun a7 => (if ((a7 >>> (x3 &&& 31)) &&& 1) = 0 then (fX5_lend_72 M) else (Option.bind (fX5_its (M 0) x2 2) (fun a10 => (if ((a10 >>> (x3 &&& 31)) &&& 1) = 1 then (fX5_lend_72 M) else (Option.bind (fX5_lends (M 0) x1 x2 x3) (fun a12 => (some (1, (sR M 0 a12))))))))))) else (Option.bind (fX5_finds M (-1000000005)) (fun a13 => (some (a13.1, (a13.2))))))))))))
theorem bX5_lend {Z : Zt} {E : Ec} {N : Ml} (C : Ok 2 Z E cX5_lend 4 RX5 (some .int) 3)    (M : Mi) (x1 : Int32) (x2 : Int32) (x3 : Int32)  : GT Z E 4 (finX5_lend N) 0 [(0, .ref (zA Z 6 0)), (1, .int x1), (2, .int x2), (3, .int x3)] [] M N (fX5_lend M x1 x2 x3) := by
  unfold fX5_lend
  refine r_aload_n C dX5_lend_0 0 0 rfl rfl ?_
  refine r_iload_n C dX5_lend_1 1 1 rfl rfl ?_
  refine r_iload_n C dX5_lend_2 2 2 rfl rfl ?_
  refine r_callV (rest := []) (st2 := [.int (fX5_areTwo (M 0) x1 x2)]) C (mX5_areTwo (eL E) C.z M _ (M 0) x1 x2).selfR lk_X5_129 (rvM C) (by decide) rfl rfl (Nat.le_of_ble_eq_true rfl) dX5_lend_3 rfl ?_
  refine r_if_eq (tgt := 16) C dX5_lend_6 (by decide) (fun c1 => ?_) (fun c1 => ?_)
  · refine r_lv [0] (lv' := [(0, .ref (zA Z 6 0))]) rfl ?_
    exact bX5_lend_16 C M
  · refine r_iload_n C dX5_lend_9 3 3 rfl rfl ?_
    refine r_callS (rest := []) (st2 := [.int (fX5_isSubject x3)]) C (mX5_isSubject (eL E) C.z _ _ x3) lk_X5_133 (by decide) rfl rfl (Nat.le_of_ble_eq_true rfl) dX5_lend_10 rfl ?_
    refine r_if_ne (tgt := 23) C dX5_lend_13 (by decide) (fun c3 => ?_) (fun c3 => ?_)
    · refine r_aload_n C dX5_lend_23 0 0 rfl rfl ?_
      refine r_iload_n C dX5_lend_24 1 1 rfl rfl ?_
      refine r_iconst (v := 1) C dX5_lend_25 (by decide) ?_
      refine r_bind (fun a4 ha4 => ?_)
      refine r_callV (rest := []) (st2 := [.int a4]) C (mX5_its (eL E) C.z M _ (M 0) x1 1 a4 ha4).selfR lk_X5_83 (rvM C) (by decide) rfl rfl (Nat.le_of_ble_eq_true rfl) dX5_lend_26 rfl ?_
      refine r_aload_n C dX5_lend_29 0 0 rfl rfl ?_
      refine r_iload_n C dX5_lend_30 2 2 rfl rfl ?_
      refine r_iconst (v := 1) C dX5_lend_31 (by decide) ?_
      refine r_bind (fun a5 ha5 => ?_)
      refine r_callV (rest := [.int a4]) (st2 := [.int a5, .int a4]) C (mX5_its (eL E) C.z M _ (M 0) x2 1 a5 ha5).selfR lk_X5_83 (rvM C) (by decide) rfl rfl (Nat.le_of_ble_eq_true rfl) dX5_lend_32 rfl ?_
      refine r_ic_eq (tgt := 45) C dX5_lend_35 (by decide) (fun c6 => ?_) (fun c6 => ?_)
      · refine r_aload_n C dX5_lend_45 0 0 rfl rfl ?_
        refine r_iload_n C dX5_lend_46 1 1 rfl rfl ?_
        refine r_iconst (v := 2) C dX5_lend_47 (by decide) ?_
        refine r_bind (fun a7 ha7 => ?_)
        refine r_callV (rest := []) (st2 := [.int a7]) C (mX5_its (eL E) C.z M _ (M 0) x1 2 a7 ha7).selfR lk_X5_83 (rvM C) (by decide) rfl rfl (Nat.le_of_ble_eq_true rfl) dX5_lend_48 rfl ?_
        refine r_iload_n C dX5_lend_51 3 3 rfl rfl ?_
        refine r_ishr C dX5_lend_52 ?_
        refine r_iconst (v := 1) C dX5_lend_53 (by decide) ?_
        refine r_iand C dX5_lend_54 ?_
        refine r_if_eq (tgt := 72) C dX5_lend_55 (by decide) (fun c8 => ?_) (fun c8 => ?_)
        · refine r_lv [0] (lv' := [(0, .ref (zA Z 6 0))]) rfl ?_
          exact bX5_lend_72 C M
        · refine r_aload_n C dX5_lend_58 0 0 rfl rfl ?_
          refine r_iload_n C dX5_lend_59 2 2 rfl rfl ?_
          refine r_iconst (v := 2) C dX5_lend_60 (by decide) ?_
          refine r_bind (fun a10 ha10 => ?_)
          refine r_callV (rest := []) (st2 := [.int a10]) C (mX5_its (eL E) C.z M _ (M 0) x2 2 a10 ha10).selfR lk_X5_83 (rvM C) (by decide) rfl rfl (Nat.le_of_ble_eq_true rfl) dX5_lend_61 rfl ?_
          refine r_iload_n C dX5_lend_64 3 3 rfl rfl ?_
          refine r_ishr C dX5_lend_65 ?_
          refine r_iconst (v := 1) C dX5_lend_66 (by decide) ?_
          refine r_iand C dX5_lend_67 ?_
          refine r_iconst (v := 1) C dX5_lend_68 (by decide) ?_
          refine r_ic_ne (tgt := 79) C dX5_lend_69 (by decide) (fun c11 => ?_) (fun c11 => ?_)
          · refine r_aload_n C dX5_lend_79 0 0 rfl rfl ?_
            refine r_iload_n C dX5_lend_80 1 1 rfl rfl ?_
            refine r_iload_n C dX5_lend_81 2 2 rfl rfl ?_
            refine r_iload_n C dX5_lend_82 3 3 rfl rfl ?_
            refine r_bind (fun a12 ha12 => ?_)
            refine r_callV (rest := []) (st2 := []) C (mX5_lends (eL E) C.z M _ (M 0) x1 x2 x3 a12 ha12).selfW lk_X5_138 (rvM C) (by decide) rfl rfl (Nat.le_of_ble_eq_true rfl) dX5_lend_83 rfl ?_
            refine r_iconst (v := 1) C dX5_lend_86 (by decide) ?_
            exact r_iret C dX5_lend_87 rfl
          · refine r_lv [0] (lv' := [(0, .ref (zA Z 6 0))]) rfl ?_
            exact bX5_lend_72 C M
      · refine r_aload_n C dX5_lend_38 0 0 rfl rfl ?_
        refine r_ldc (v := (-1000000005)) C dX5_lend_39 wd_980 ?_
        refine r_bind (fun a13 ha13 => ?_)
        refine r_callV (rest := []) (st2 := [.int a13.1]) C (mX5_finds (eL E) C.z M N (-1000000005) a13 ha13) lk_X5_65 (rvM C) (by decide) rfl rfl (Nat.le_of_ble_eq_true rfl) dX5_lend_41 rfl ?_
        exact r_iret C dX5_lend_44 rfl
    · refine r_lv [0] (lv' := [(0, .ref (zA Z 6 0))]) rfl ?_
      exact bX5_lend_16 C M
theorem mX5_lend (l : Launch) {Z : Zt} (hZ : Zok 2 Z) (M : Mi) (N : Ml) (x1 : Int32) (x2 : Int32) (x3 : Int32) (b : Int32 × Mi) (hb : fX5_lend M x1 x2 x3 = some b) : Ct 2 Z l yX5_lend cX5_lend 4 (some .int) 3 [.ref (zA Z 6 0), .int x1, .int x2, .int x3] M N (some (Value.int b.1), b.2, N) :=
  metG (fin := (finX5_lend N)) (by decide) (Nat.le_of_ble_eq_true rfl) (fun E _ C => bX5_lend C M x1 x2 x3) hb
theorem dX5_nearer_0 : decode cX5_nearer 0 = .ok (.iload_n 1, 1) := by decide +kernel
theorem dX5_nearer_1 : decode cX5_nearer 1 = .ok (.bipush 6, 2) := by decide +kernel
theorem dX5_nearer_3 : decode cX5_nearer 3 = .ok (.idiv, 1) := by decide +kernel
theorem dX5_nearer_4 : decode cX5_nearer 4 = .ok (.iload_n 2, 1) := by decide +kernel
theorem dX5_nearer_5 : decode cX5_nearer 5 = .ok (.bipush 6, 2) := by decide +kernel
theorem dX5_nearer_7 : decode cX5_nearer 7 = .ok (.idiv, 1) := by decide +kernel
theorem dX5_nearer_8 : decode cX5_nearer 8 = .ok (.if_icmp .ge 10, 3) := by decide +kernel
theorem dX5_nearer_11 : decode cX5_nearer 11 = .ok (.iload_n 1, 1) := by decide +kernel
theorem dX5_nearer_12 : decode cX5_nearer 12 = .ok (.bipush 6, 2) := by decide +kernel
theorem dX5_nearer_14 : decode cX5_nearer 14 = .ok (.iadd, 1) := by decide +kernel
theorem dX5_nearer_15 : decode cX5_nearer 15 = .ok (.goto 7, 3) := by decide +kernel
theorem dX5_nearer_18 : decode cX5_nearer 18 = .ok (.iload_n 1, 1) := by decide +kernel
theorem dX5_nearer_19 : decode cX5_nearer 19 = .ok (.bipush 6, 2) := by decide +kernel
theorem dX5_nearer_21 : decode cX5_nearer 21 = .ok (.isub, 1) := by decide +kernel
theorem dX5_nearer_22 : decode cX5_nearer 22 = .ok (.istore_n 3, 1) := by decide +kernel
theorem dX5_nearer_23 : decode cX5_nearer 23 = .ok (.iload_n 1, 1) := by decide +kernel
theorem dX5_nearer_24 : decode cX5_nearer 24 = .ok (.bipush 6, 2) := by decide +kernel
theorem dX5_nearer_26 : decode cX5_nearer 26 = .ok (.idiv, 1) := by decide +kernel
theorem dX5_nearer_27 : decode cX5_nearer 27 = .ok (.iload_n 2, 1) := by decide +kernel
theorem dX5_nearer_28 : decode cX5_nearer 28 = .ok (.bipush 6, 2) := by decide +kernel
theorem dX5_nearer_30 : decode cX5_nearer 30 = .ok (.idiv, 1) := by decide +kernel
theorem dX5_nearer_31 : decode cX5_nearer 31 = .ok (.if_icmp .eq 13, 3) := by decide +kernel
theorem dX5_nearer_34 : decode cX5_nearer 34 = .ok (.aload_n 0, 1) := by decide +kernel
theorem dX5_nearer_35 : decode cX5_nearer 35 = .ok (.iload_n 3, 1) := by decide +kernel
theorem dX5_nearer_36 : decode cX5_nearer 36 = .ok (.invokevirtual 69, 3) := by decide +kernel
theorem dX5_nearer_39 : decode cX5_nearer 39 = .ok (.ifCond .ne 5, 3) := by decide +kernel
theorem dX5_nearer_42 : decode cX5_nearer 42 = .ok (.iload_n 3, 1) := by decide +kernel
theorem dX5_nearer_43 : decode cX5_nearer 43 = .ok (.ireturn, 1) := by decide +kernel
theorem dX5_nearer_44 : decode cX5_nearer 44 = .ok (.iload_n 1, 1) := by decide +kernel
theorem dX5_nearer_45 : decode cX5_nearer 45 = .ok (.bipush 6, 2) := by decide +kernel
theorem dX5_nearer_47 : decode cX5_nearer 47 = .ok (.irem, 1) := by decide +kernel
theorem dX5_nearer_48 : decode cX5_nearer 48 = .ok (.iload_n 2, 1) := by decide +kernel
theorem dX5_nearer_49 : decode cX5_nearer 49 = .ok (.bipush 6, 2) := by decide +kernel
theorem dX5_nearer_51 : decode cX5_nearer 51 = .ok (.irem, 1) := by decide +kernel
theorem dX5_nearer_52 : decode cX5_nearer 52 = .ok (.if_icmp .ge 9, 3) := by decide +kernel
theorem dX5_nearer_55 : decode cX5_nearer 55 = .ok (.iload_n 1, 1) := by decide +kernel
theorem dX5_nearer_56 : decode cX5_nearer 56 = .ok (.iconst 1, 1) := by decide +kernel
theorem dX5_nearer_57 : decode cX5_nearer 57 = .ok (.iadd, 1) := by decide +kernel
theorem dX5_nearer_58 : decode cX5_nearer 58 = .ok (.goto 6, 3) := by decide +kernel
theorem dX5_nearer_61 : decode cX5_nearer 61 = .ok (.iload_n 1, 1) := by decide +kernel
theorem dX5_nearer_62 : decode cX5_nearer 62 = .ok (.iconst 1, 1) := by decide +kernel
theorem dX5_nearer_63 : decode cX5_nearer 63 = .ok (.isub, 1) := by decide +kernel
theorem dX5_nearer_64 : decode cX5_nearer 64 = .ok (.istore 4, 2) := by decide +kernel
theorem dX5_nearer_66 : decode cX5_nearer 66 = .ok (.iload_n 1, 1) := by decide +kernel
theorem dX5_nearer_67 : decode cX5_nearer 67 = .ok (.bipush 6, 2) := by decide +kernel
theorem dX5_nearer_69 : decode cX5_nearer 69 = .ok (.irem, 1) := by decide +kernel
theorem dX5_nearer_70 : decode cX5_nearer 70 = .ok (.iload_n 2, 1) := by decide +kernel
theorem dX5_nearer_71 : decode cX5_nearer 71 = .ok (.bipush 6, 2) := by decide +kernel
theorem dX5_nearer_73 : decode cX5_nearer 73 = .ok (.irem, 1) := by decide +kernel
theorem dX5_nearer_74 : decode cX5_nearer 74 = .ok (.if_icmp .eq 17, 3) := by decide +kernel
theorem dX5_nearer_77 : decode cX5_nearer 77 = .ok (.aload_n 0, 1) := by decide +kernel
theorem dX5_nearer_78 : decode cX5_nearer 78 = .ok (.iload 4, 2) := by decide +kernel
theorem dX5_nearer_80 : decode cX5_nearer 80 = .ok (.invokevirtual 69, 3) := by decide +kernel
theorem dX5_nearer_83 : decode cX5_nearer 83 = .ok (.ifCond .ne 8, 3) := by decide +kernel
theorem dX5_nearer_86 : decode cX5_nearer 86 = .ok (.iload 4, 2) := by decide +kernel
theorem dX5_nearer_88 : decode cX5_nearer 88 = .ok (.goto 4, 3) := by decide +kernel
theorem dX5_nearer_91 : decode cX5_nearer 91 = .ok (.iload_n 1, 1) := by decide +kernel
theorem dX5_nearer_92 : decode cX5_nearer 92 = .ok (.ireturn, 1) := by decide +kernel
def finX5_nearer (M0 : Mi) (σ : Nat → Int32) (N : Ml) : Int32 → Option Value × Mi × Ml := fun b => (some (Value.int b), sR M0 0 σ, N)
noncomputable def fX5_nearer_64 (σ : Nat → Int32)  (x1 : Int32) (x2 : Int32) (s0 : Int32) : Int32 := (if (x1 - x1 / 6 * 6) = (x2 - x2 / 6 * 6) then x1 else (if (fX5_isFenced σ s0) = 0 then s0 else x1))
theorem bX5_nearer_64 {Z : Zt} {E : Ec} {M0 : Mi} {σ : Nat → Int32} {N : Ml} (C : Ok 2 Z E cX5_nearer 5 RX5 (some .int) 1)    (x1 : Int32) (x2 : Int32) (s0 : Int32)  : GT Z E 5 (finX5_nearer M0 σ N) 64 [(0, .ref (zA Z 6 0)), (1, .int x1), (2, .int x2)] [.int s0] (sR M0 0 σ) N (some (fX5_nearer_64 σ x1 x2 s0)) := by
  unfold fX5_nearer_64
  refine r_istore (lv' := [(4, .int s0), (0, .ref (zA Z 6 0)), (1, .int x1), (2, .int x2)]) C dX5_nearer_64 (by decide) rfl ?_
  refine r_iload_n C dX5_nearer_66 1 2 rfl rfl ?_
  refine r_bipush (v := 6) C dX5_nearer_67 (by decide) ?_
  refine r_irem C dX5_nearer_69 (by decide) ?_
  refine r_iload_n C dX5_nearer_70 2 3 rfl rfl ?_
  refine r_bipush (v := 6) C dX5_nearer_71 (by decide) ?_
  refine r_irem C dX5_nearer_73 (by decide) ?_
  refine r_st ?_
  refine r_ic_eq (tgt := 91) C dX5_nearer_74 (by decide) (fun c6 => ?_) (fun c6 => ?_)
  · refine r_iload_n C dX5_nearer_91 1 2 rfl rfl ?_
    exact r_iret C dX5_nearer_92 rfl
  · refine r_aload_n C dX5_nearer_77 0 1 rfl rfl ?_
    refine r_iload C dX5_nearer_78 0 rfl ?_
    refine r_callV (rest := []) (st2 := [.int (fX5_isFenced σ s0)]) C (mX5_isFenced (eL E) C.z _ _ σ s0) lk_X5_69 (rvM C) (by decide) rfl rfl (Nat.le_of_ble_eq_true rfl) dX5_nearer_80 rfl ?_
    refine r_st ?_
    refine r_if_ne (tgt := 91) C dX5_nearer_83 (by decide) (fun c7 => ?_) (fun c7 => ?_)
    · refine r_iload_n C dX5_nearer_91 1 2 rfl rfl ?_
      exact r_iret C dX5_nearer_92 rfl
    · refine r_iload C dX5_nearer_86 0 rfl ?_
      refine r_goto (tgt := 92) C dX5_nearer_88 (by decide) ?_
      exact r_iret C dX5_nearer_92 rfl
noncomputable def fX5_nearer_44 (σ : Nat → Int32)  (x1 : Int32) (x2 : Int32) : Int32 := (fX5_nearer_64 σ x1 x2 (if (x2 - x2 / 6 * 6) ≤ (x1 - x1 / 6 * 6) then (x1 - 1) else (x1 + 1) : Int32))
theorem bX5_nearer_44 {Z : Zt} {E : Ec} {M0 : Mi} {σ : Nat → Int32} {N : Ml} (C : Ok 2 Z E cX5_nearer 5 RX5 (some .int) 1)    (x1 : Int32) (x2 : Int32)  : GT Z E 5 (finX5_nearer M0 σ N) 44 [(0, .ref (zA Z 6 0)), (1, .int x1), (2, .int x2)] [] (sR M0 0 σ) N (some (fX5_nearer_44 σ x1 x2)) := by
  unfold fX5_nearer_44
  refine r_iload_n C dX5_nearer_44 1 1 rfl rfl ?_
  refine r_bipush (v := 6) C dX5_nearer_45 (by decide) ?_
  refine r_irem C dX5_nearer_47 (by decide) ?_
  refine r_iload_n C dX5_nearer_48 2 2 rfl rfl ?_
  refine r_bipush (v := 6) C dX5_nearer_49 (by decide) ?_
  refine r_irem C dX5_nearer_51 (by decide) ?_
  refine r_sel (tj := 64) (sj := [.int (if (x2 - x2 / 6 * 6) ≤ (x1 - x1 / 6 * 6) then (x1 - 1) else (x1 + 1) : Int32)]) ?_ (fun k5 => ?_)
  · exact bX5_nearer_64 C x1 x2 (if (x2 - x2 / 6 * 6) ≤ (x1 - x1 / 6 * 6) then (x1 - 1) else (x1 + 1) : Int32)
  · refine r_same (P := (x2 - x2 / 6 * 6) ≤ (x1 - x1 / 6 * 6)) ?_
    refine r_ic_ge (tgt := 61) C dX5_nearer_52 (by decide) (fun c4 => ?_) (fun c4 => ?_)
    · refine r_iload_n C dX5_nearer_61 1 1 rfl rfl ?_
      refine r_iconst (v := 1) C dX5_nearer_62 (by decide) ?_
      refine r_isub C dX5_nearer_63 ?_
      exact r_stk (if_pos c4) k5
    · refine r_iload_n C dX5_nearer_55 1 1 rfl rfl ?_
      refine r_iconst (v := 1) C dX5_nearer_56 (by decide) ?_
      refine r_iadd C dX5_nearer_57 ?_
      refine r_goto (tgt := 64) C dX5_nearer_58 (by decide) ?_
      exact r_stk (if_neg c4) k5
noncomputable def fX5_nearer_22 (σ : Nat → Int32)  (x1 : Int32) (x2 : Int32) (s0 : Int32) : Int32 := (if (x1 / 6) = (x2 / 6) then (fX5_nearer_44 σ x1 x2) else (if (fX5_isFenced σ s0) = 0 then s0 else (fX5_nearer_44 σ x1 x2)))
theorem bX5_nearer_22 {Z : Zt} {E : Ec} {M0 : Mi} {σ : Nat → Int32} {N : Ml} (C : Ok 2 Z E cX5_nearer 5 RX5 (some .int) 1)    (x1 : Int32) (x2 : Int32) (s0 : Int32)  : GT Z E 5 (finX5_nearer M0 σ N) 22 [(0, .ref (zA Z 6 0)), (1, .int x1), (2, .int x2)] [.int s0] (sR M0 0 σ) N (some (fX5_nearer_22 σ x1 x2 s0)) := by
  unfold fX5_nearer_22
  refine r_istore_n (lv' := [(3, .int s0), (0, .ref (zA Z 6 0)), (1, .int x1), (2, .int x2)]) C dX5_nearer_22 3 rfl (by decide) rfl ?_
  refine r_iload_n C dX5_nearer_23 1 2 rfl rfl ?_
  refine r_bipush (v := 6) C dX5_nearer_24 (by decide) ?_
  refine r_idiv C dX5_nearer_26 (by decide) ?_
  refine r_iload_n C dX5_nearer_27 2 3 rfl rfl ?_
  refine r_bipush (v := 6) C dX5_nearer_28 (by decide) ?_
  refine r_idiv C dX5_nearer_30 (by decide) ?_
  refine r_st ?_
  refine r_ic_eq (tgt := 44) C dX5_nearer_31 (by decide) (fun c3 => ?_) (fun c3 => ?_)
  · refine r_lv [1, 2, 3] (lv' := [(0, .ref (zA Z 6 0)), (1, .int x1), (2, .int x2)]) rfl ?_
    exact bX5_nearer_44 C x1 x2
  · refine r_aload_n C dX5_nearer_34 0 1 rfl rfl ?_
    refine r_iload_n C dX5_nearer_35 3 0 rfl rfl ?_
    refine r_callV (rest := []) (st2 := [.int (fX5_isFenced σ s0)]) C (mX5_isFenced (eL E) C.z _ _ σ s0) lk_X5_69 (rvM C) (by decide) rfl rfl (Nat.le_of_ble_eq_true rfl) dX5_nearer_36 rfl ?_
    refine r_st ?_
    refine r_if_ne (tgt := 44) C dX5_nearer_39 (by decide) (fun c8 => ?_) (fun c8 => ?_)
    · refine r_lv [1, 2, 3] (lv' := [(0, .ref (zA Z 6 0)), (1, .int x1), (2, .int x2)]) rfl ?_
      exact bX5_nearer_44 C x1 x2
    · refine r_iload_n C dX5_nearer_42 3 0 rfl rfl ?_
      exact r_iret C dX5_nearer_43 rfl
noncomputable def fX5_nearer (σ : Nat → Int32)  (x1 : Int32) (x2 : Int32) : Int32 := (fX5_nearer_22 σ x1 x2 (if (x2 / 6) ≤ (x1 / 6) then (x1 - 6) else (x1 + 6) : Int32))
theorem bX5_nearer {Z : Zt} {E : Ec} {M0 : Mi} {σ : Nat → Int32} {N : Ml} (C : Ok 2 Z E cX5_nearer 5 RX5 (some .int) 1)    (x1 : Int32) (x2 : Int32)  : GT Z E 5 (finX5_nearer M0 σ N) 0 [(0, .ref (zA Z 6 0)), (1, .int x1), (2, .int x2)] [] (sR M0 0 σ) N (some (fX5_nearer σ x1 x2)) := by
  unfold fX5_nearer
  refine r_iload_n C dX5_nearer_0 1 1 rfl rfl ?_
  refine r_bipush (v := 6) C dX5_nearer_1 (by decide) ?_
  refine r_idiv C dX5_nearer_3 (by decide) ?_
  refine r_iload_n C dX5_nearer_4 2 2 rfl rfl ?_
  refine r_bipush (v := 6) C dX5_nearer_5 (by decide) ?_
  refine r_idiv C dX5_nearer_7 (by decide) ?_
  refine r_sel (tj := 22) (sj := [.int (if (x2 / 6) ≤ (x1 / 6) then (x1 - 6) else (x1 + 6) : Int32)]) ?_ (fun k2 => ?_)
  · exact bX5_nearer_22 C x1 x2 (if (x2 / 6) ≤ (x1 / 6) then (x1 - 6) else (x1 + 6) : Int32)
  · refine r_same (P := (x2 / 6) ≤ (x1 / 6)) ?_
    refine r_ic_ge (tgt := 18) C dX5_nearer_8 (by decide) (fun c1 => ?_) (fun c1 => ?_)
    · refine r_iload_n C dX5_nearer_18 1 1 rfl rfl ?_
      refine r_bipush (v := 6) C dX5_nearer_19 (by decide) ?_
      refine r_isub C dX5_nearer_21 ?_
      exact r_stk (if_pos c1) k2
    · refine r_iload_n C dX5_nearer_11 1 1 rfl rfl ?_
      refine r_bipush (v := 6) C dX5_nearer_12 (by decide) ?_
      refine r_iadd C dX5_nearer_14 ?_
      refine r_goto (tgt := 22) C dX5_nearer_15 (by decide) ?_
      exact r_stk (if_neg c1) k2
theorem mX5_nearer (l : Launch) {Z : Zt} (hZ : Zok 2 Z) (M0 : Mi) (N : Ml) (σ : Nat → Int32) (x1 : Int32) (x2 : Int32) : Ct 2 Z l yX5_nearer cX5_nearer 5 (some .int) 1 [.ref (zA Z 6 0), .int x1, .int x2] (sR M0 0 σ) N (some (Value.int (fX5_nearer σ x1 x2)), sR M0 0 σ, N) :=
  metG (fin := (finX5_nearer M0 σ N)) (by decide) (Nat.le_of_ble_eq_true rfl) (fun E _ C => bX5_nearer C x1 x2) rfl
theorem dX5_goes_0 : decode cX5_goes 0 = .ok (.aload_n 0, 1) := by decide +kernel
theorem dX5_goes_1 : decode cX5_goes 1 = .ok (.iload_n 1, 1) := by decide +kernel
theorem dX5_goes_2 : decode cX5_goes 2 = .ok (.invokevirtual 119, 3) := by decide +kernel
theorem dX5_goes_5 : decode cX5_goes 5 = .ok (.istore_n 2, 1) := by decide +kernel
theorem dX5_goes_6 : decode cX5_goes 6 = .ok (.aload_n 0, 1) := by decide +kernel
theorem dX5_goes_7 : decode cX5_goes 7 = .ok (.iload_n 1, 1) := by decide +kernel
theorem dX5_goes_8 : decode cX5_goes 8 = .ok (.invokevirtual 122, 3) := by decide +kernel
theorem dX5_goes_11 : decode cX5_goes 11 = .ok (.istore_n 3, 1) := by decide +kernel
theorem dX5_goes_12 : decode cX5_goes 12 = .ok (.iload_n 3, 1) := by decide +kernel
theorem dX5_goes_13 : decode cX5_goes 13 = .ok (.ifCond .le 30, 3) := by decide +kernel
theorem dX5_goes_16 : decode cX5_goes 16 = .ok (.aload_n 0, 1) := by decide +kernel
theorem dX5_goes_17 : decode cX5_goes 17 = .ok (.getfield 7, 3) := by decide +kernel
theorem dX5_goes_20 : decode cX5_goes 20 = .ok (.iload_n 1, 1) := by decide +kernel
theorem dX5_goes_21 : decode cX5_goes 21 = .ok (.iconst 1, 1) := by decide +kernel
theorem dX5_goes_22 : decode cX5_goes 22 = .ok (.invokestatic 58, 3) := by decide +kernel
theorem dX5_goes_25 : decode cX5_goes 25 = .ok (.aload_n 0, 1) := by decide +kernel
theorem dX5_goes_26 : decode cX5_goes 26 = .ok (.aload_n 0, 1) := by decide +kernel
theorem dX5_goes_27 : decode cX5_goes 27 = .ok (.iload_n 1, 1) := by decide +kernel
theorem dX5_goes_28 : decode cX5_goes 28 = .ok (.iconst 1, 1) := by decide +kernel
theorem dX5_goes_29 : decode cX5_goes 29 = .ok (.invokevirtual 83, 3) := by decide +kernel
theorem dX5_goes_32 : decode cX5_goes 32 = .ok (.iload_n 2, 1) := by decide +kernel
theorem dX5_goes_33 : decode cX5_goes 33 = .ok (.invokevirtual 142, 3) := by decide +kernel
theorem dX5_goes_36 : decode cX5_goes 36 = .ok (.iastore, 1) := by decide +kernel
theorem dX5_goes_37 : decode cX5_goes 37 = .ok (.iinc 3 (-1), 3) := by decide +kernel
theorem dX5_goes_40 : decode cX5_goes 40 = .ok (.goto (-28), 3) := by decide +kernel
theorem dX5_goes_43 : decode cX5_goes 43 = .ok (.return_, 1) := by decide +kernel
def finX5_goes (M0 : Mi) (N : Ml) : (Nat → Int32) → Option Value × Mi × Ml := fun b => (none, sR M0 0 (b), N)
noncomputable def fX5_goes_12   : Nat → (Nat → Int32) → Int32 → Int32 → Int32 → Option ((Nat → Int32))
  | 0 => fun _ _ _ _ => none
  | n + 1 => fun σ x1 x2 x3 => (if x3 ≤ 0 then (some σ) else (Option.bind (fX5_its σ x1 1) (fun a4 => (if inb (fX5_spotOf x1 1) 39 then ((fX5_goes_12 n) (upd σ (ix (fX5_spotOf x1 1)) (fX5_nearer σ a4 x2)) x1 x2 (x3 + (-1))) else none))))
theorem bX5_goes_12 {Z : Zt} {E : Ec} {M0 : Mi} {N : Ml} (C : Ok 2 Z E cX5_goes 4 RX5 none 3)    : ∀ (n : Nat) (σ : Nat → Int32) (x1 : Int32) (x2 : Int32) (x3 : Int32), GT Z E 4 (finX5_goes M0 N) 12 [(0, .ref (zA Z 6 0)), (1, .int x1), (2, .int x2), (3, .int x3)] [] (sR M0 0 σ) N (fX5_goes_12 n σ x1 x2 x3) := by
  intro n
  induction n with
  | zero => intro σ x1 x2 x3; exact r_none
  | succ n ih =>
    intro σ x1 x2 x3
    rw [fX5_goes_12]
    refine r_iload_n C dX5_goes_12 3 3 rfl rfl ?_
    refine r_if_le (tgt := 43) C dX5_goes_13 (by decide) (fun c3 => ?_) (fun c3 => ?_)
    · exact r_vret C dX5_goes_43 rfl
    · refine r_aload_n C dX5_goes_16 0 0 rfl rfl ?_
      refine gf_X5_7 C dX5_goes_17 ?_
      refine r_iload_n C dX5_goes_20 1 1 rfl rfl ?_
      refine r_iconst (v := 1) C dX5_goes_21 (by decide) ?_
      refine r_callS (rest := [.ref (zA Z 0 0)]) (st2 := [.int (fX5_spotOf x1 1), .ref (zA Z 0 0)]) C (mX5_spotOf (eL E) C.z _ _ x1 1) lk_X5_58 (by decide) rfl rfl (Nat.le_of_ble_eq_true rfl) dX5_goes_22 rfl ?_
      refine r_aload_n C dX5_goes_25 0 0 rfl rfl ?_
      refine r_aload_n C dX5_goes_26 0 0 rfl rfl ?_
      refine r_iload_n C dX5_goes_27 1 1 rfl rfl ?_
      refine r_iconst (v := 1) C dX5_goes_28 (by decide) ?_
      refine r_bind (fun a4 ha4 => ?_)
      refine r_callV (rest := [.ref (zA Z 6 0), .int (fX5_spotOf x1 1), .ref (zA Z 0 0)]) (st2 := [.int a4, .ref (zA Z 6 0), .int (fX5_spotOf x1 1), .ref (zA Z 0 0)]) C (mX5_its (eL E) C.z _ _ σ x1 1 a4 ha4) lk_X5_83 (rvM C) (by decide) rfl rfl (Nat.le_of_ble_eq_true rfl) dX5_goes_29 rfl ?_
      refine r_iload_n C dX5_goes_32 2 2 rfl rfl ?_
      refine r_callV (rest := [.int (fX5_spotOf x1 1), .ref (zA Z 0 0)]) (st2 := [.int (fX5_nearer σ a4 x2), .int (fX5_spotOf x1 1), .ref (zA Z 0 0)]) C (mX5_nearer (eL E) C.z _ _ σ a4 x2) lk_X5_142 (rvM C) (by decide) rfl rfl (Nat.le_of_ble_eq_true rfl) dX5_goes_33 rfl ?_
      refine r_guard (fun h5 => ?_)
      refine ast_M (M' := (sR M0 0 (upd σ (ix (fX5_spotOf x1 1)) (fX5_nearer σ a4 x2)))) C mI_0 h5 (wM_sR _ _ _ _ _) dX5_goes_36 ?_
      refine r_iinc (v := (x3 + (-1))) (lv' := [(3, .int (x3 + (-1))), (0, .ref (zA Z 6 0)), (1, .int x1), (2, .int x2)]) C dX5_goes_37 3 rfl rfl (by decide) rfl ?_
      refine r_goto (tgt := 12) C dX5_goes_40 (by decide) ?_
      refine r_lv [1, 2, 3, 0] (lv' := [(0, .ref (zA Z 6 0)), (1, .int x1), (2, .int x2), (3, .int (x3 + (-1)))]) rfl ?_
      exact ih (upd σ (ix (fX5_spotOf x1 1)) (fX5_nearer σ a4 x2)) x1 x2 (x3 + (-1))
noncomputable def fX5_goes   (σ : Nat → Int32) (x1 : Int32) : Option ((Nat → Int32)) := (Option.bind (fX5_aimOf σ x1) (fun a1 => (Option.bind (fX5_paceOf σ x1) (fun a2 => (fX5_goes_12 fu σ x1 a1 a2)))))
theorem bX5_goes {Z : Zt} {E : Ec} {M0 : Mi} {N : Ml} (C : Ok 2 Z E cX5_goes 4 RX5 none 3)    (σ : Nat → Int32) (x1 : Int32)  : GT Z E 4 (finX5_goes M0 N) 0 [(0, .ref (zA Z 6 0)), (1, .int x1)] [] (sR M0 0 σ) N (fX5_goes σ x1) := by
  unfold fX5_goes
  refine r_aload_n C dX5_goes_0 0 0 rfl rfl ?_
  refine r_iload_n C dX5_goes_1 1 1 rfl rfl ?_
  refine r_bind (fun a1 ha1 => ?_)
  refine r_callV (rest := []) (st2 := [.int a1]) C (mX5_aimOf (eL E) C.z _ _ σ x1 a1 ha1) lk_X5_119 (rvM C) (by decide) rfl rfl (Nat.le_of_ble_eq_true rfl) dX5_goes_2 rfl ?_
  refine r_istore_n (lv' := [(2, .int a1), (0, .ref (zA Z 6 0)), (1, .int x1)]) C dX5_goes_5 2 rfl (by decide) rfl ?_
  refine r_aload_n C dX5_goes_6 0 1 rfl rfl ?_
  refine r_iload_n C dX5_goes_7 1 2 rfl rfl ?_
  refine r_bind (fun a2 ha2 => ?_)
  refine r_callV (rest := []) (st2 := [.int a2]) C (mX5_paceOf (eL E) C.z _ _ σ x1 a2 ha2) lk_X5_122 (rvM C) (by decide) rfl rfl (Nat.le_of_ble_eq_true rfl) dX5_goes_8 rfl ?_
  refine r_istore_n (lv' := [(3, .int a2), (2, .int a1), (0, .ref (zA Z 6 0)), (1, .int x1)]) C dX5_goes_11 3 rfl (by decide) rfl ?_
  refine r_lv [2, 3, 1, 0] (lv' := [(0, .ref (zA Z 6 0)), (1, .int x1), (2, .int a1), (3, .int a2)]) rfl ?_
  exact bX5_goes_12 C fu σ x1 a1 a2
theorem mX5_goes (l : Launch) {Z : Zt} (hZ : Zok 2 Z) (M0 : Mi) (N : Ml) (σ : Nat → Int32) (x1 : Int32) (b : (Nat → Int32)) (hb : fX5_goes σ x1 = some b) : Ct 2 Z l yX5_goes cX5_goes 4 none 3 [.ref (zA Z 6 0), .int x1] (sR M0 0 σ) N (none, sR M0 0 (b), N) :=
  metG (fin := (finX5_goes M0 N)) (by decide) (Nat.le_of_ble_eq_true rfl) (fun E _ C => bX5_goes C σ x1) hb
theorem dX5_meets_0 : decode cX5_meets 0 = .ok (.aload_n 0, 1) := by decide +kernel
theorem dX5_meets_1 : decode cX5_meets 1 = .ok (.iload_n 2, 1) := by decide +kernel
theorem dX5_meets_2 : decode cX5_meets 2 = .ok (.iconst 2, 1) := by decide +kernel
theorem dX5_meets_3 : decode cX5_meets 3 = .ok (.invokevirtual 83, 3) := by decide +kernel
theorem dX5_meets_6 : decode cX5_meets 6 = .ok (.aload_n 0, 1) := by decide +kernel
theorem dX5_meets_7 : decode cX5_meets 7 = .ok (.iload_n 1, 1) := by decide +kernel
theorem dX5_meets_8 : decode cX5_meets 8 = .ok (.iconst 2, 1) := by decide +kernel
theorem dX5_meets_9 : decode cX5_meets 9 = .ok (.invokevirtual 83, 3) := by decide +kernel
theorem dX5_meets_12 : decode cX5_meets 12 = .ok (.iconst (-1), 1) := by decide +kernel
theorem dX5_meets_13 : decode cX5_meets 13 = .ok (.ixor, 1) := by decide +kernel
theorem dX5_meets_14 : decode cX5_meets 14 = .ok (.iand, 1) := by decide +kernel
theorem dX5_meets_15 : decode cX5_meets 15 = .ok (.istore_n 3, 1) := by decide +kernel
theorem dX5_meets_16 : decode cX5_meets 16 = .ok (.aload_n 0, 1) := by decide +kernel
theorem dX5_meets_17 : decode cX5_meets 17 = .ok (.iload_n 1, 1) := by decide +kernel
theorem dX5_meets_18 : decode cX5_meets 18 = .ok (.iconst 1, 1) := by decide +kernel
theorem dX5_meets_19 : decode cX5_meets 19 = .ok (.invokevirtual 83, 3) := by decide +kernel
theorem dX5_meets_22 : decode cX5_meets 22 = .ok (.aload_n 0, 1) := by decide +kernel
theorem dX5_meets_23 : decode cX5_meets 23 = .ok (.iload_n 2, 1) := by decide +kernel
theorem dX5_meets_24 : decode cX5_meets 24 = .ok (.iconst 1, 1) := by decide +kernel
theorem dX5_meets_25 : decode cX5_meets 25 = .ok (.invokevirtual 83, 3) := by decide +kernel
theorem dX5_meets_28 : decode cX5_meets 28 = .ok (.if_icmp .ne 50, 3) := by decide +kernel
theorem dX5_meets_31 : decode cX5_meets 31 = .ok (.aload_n 0, 1) := by decide +kernel
theorem dX5_meets_32 : decode cX5_meets 32 = .ok (.iload_n 2, 1) := by decide +kernel
theorem dX5_meets_33 : decode cX5_meets 33 = .ok (.iconst 2, 1) := by decide +kernel
theorem dX5_meets_34 : decode cX5_meets 34 = .ok (.invokevirtual 83, 3) := by decide +kernel
theorem dX5_meets_37 : decode cX5_meets 37 = .ok (.invokestatic 145, 3) := by decide +kernel
theorem dX5_meets_40 : decode cX5_meets 40 = .ok (.aload_n 0, 1) := by decide +kernel
theorem dX5_meets_41 : decode cX5_meets 41 = .ok (.iload_n 1, 1) := by decide +kernel
theorem dX5_meets_42 : decode cX5_meets 42 = .ok (.iconst 2, 1) := by decide +kernel
theorem dX5_meets_43 : decode cX5_meets 43 = .ok (.invokevirtual 83, 3) := by decide +kernel
theorem dX5_meets_46 : decode cX5_meets 46 = .ok (.invokestatic 145, 3) := by decide +kernel
theorem dX5_meets_49 : decode cX5_meets 49 = .ok (.if_icmp .le 29, 3) := by decide +kernel
theorem dX5_meets_52 : decode cX5_meets 52 = .ok (.iconst 0, 1) := by decide +kernel
theorem dX5_meets_53 : decode cX5_meets 53 = .ok (.istore 4, 2) := by decide +kernel
theorem dX5_meets_55 : decode cX5_meets 55 = .ok (.iload_n 3, 1) := by decide +kernel
theorem dX5_meets_56 : decode cX5_meets 56 = .ok (.iload 4, 2) := by decide +kernel
theorem dX5_meets_58 : decode cX5_meets 58 = .ok (.ishr, 1) := by decide +kernel
theorem dX5_meets_59 : decode cX5_meets 59 = .ok (.iconst 1, 1) := by decide +kernel
theorem dX5_meets_60 : decode cX5_meets 60 = .ok (.iand, 1) := by decide +kernel
theorem dX5_meets_61 : decode cX5_meets 61 = .ok (.ifCond .ne 9, 3) := by decide +kernel
theorem dX5_meets_64 : decode cX5_meets 64 = .ok (.iinc 4 1, 3) := by decide +kernel
theorem dX5_meets_67 : decode cX5_meets 67 = .ok (.goto (-12), 3) := by decide +kernel
theorem dX5_meets_70 : decode cX5_meets 70 = .ok (.aload_n 0, 1) := by decide +kernel
theorem dX5_meets_71 : decode cX5_meets 71 = .ok (.iload_n 2, 1) := by decide +kernel
theorem dX5_meets_72 : decode cX5_meets 72 = .ok (.iload_n 1, 1) := by decide +kernel
theorem dX5_meets_73 : decode cX5_meets 73 = .ok (.iload 4, 2) := by decide +kernel
theorem dX5_meets_75 : decode cX5_meets 75 = .ok (.invokevirtual 138, 3) := by decide +kernel
theorem dX5_meets_78 : decode cX5_meets 78 = .ok (.return_, 1) := by decide +kernel
def finX5_meets (M0 : Mi) (N : Ml) : (Nat → Int32) → Option Value × Mi × Ml := fun b => (none, sR M0 0 (b), N)
noncomputable def fX5_meets_55   : Nat → (Nat → Int32) → Int32 → Int32 → Int32 → Int32 → Option ((Nat → Int32))
  | 0 => fun _ _ _ _ _ => none
  | n + 1 => fun σ x1 x2 x3 x4 => (if ((x3 >>> (x4 &&& 31)) &&& 1) = 0 then ((fX5_meets_55 n) σ x1 x2 x3 (x4 + 1)) else (Option.bind (fX5_lends σ x2 x1 x4) (fun a12 => (some a12))))
theorem bX5_meets_55 {Z : Zt} {E : Ec} {M0 : Mi} {N : Ml} (C : Ok 2 Z E cX5_meets 5 RX5 none 2)    : ∀ (n : Nat) (σ : Nat → Int32) (x1 : Int32) (x2 : Int32) (x3 : Int32) (x4 : Int32), GT Z E 5 (finX5_meets M0 N) 55 [(0, .ref (zA Z 6 0)), (1, .int x1), (2, .int x2), (3, .int x3), (4, .int x4)] [] (sR M0 0 σ) N (fX5_meets_55 n σ x1 x2 x3 x4) := by
  intro n
  induction n with
  | zero => intro σ x1 x2 x3 x4; exact r_none
  | succ n ih =>
    intro σ x1 x2 x3 x4
    rw [fX5_meets_55]
    refine r_iload_n C dX5_meets_55 3 3 rfl rfl ?_
    refine r_iload C dX5_meets_56 4 rfl ?_
    refine r_ishr C dX5_meets_58 ?_
    refine r_iconst (v := 1) C dX5_meets_59 (by decide) ?_
    refine r_iand C dX5_meets_60 ?_
    refine r_if_ne (tgt := 70) C dX5_meets_61 (by decide) (fun c11 => ?_) (fun c11 => ?_)
    · refine r_aload_n C dX5_meets_70 0 0 rfl rfl ?_
      refine r_iload_n C dX5_meets_71 2 2 rfl rfl ?_
      refine r_iload_n C dX5_meets_72 1 1 rfl rfl ?_
      refine r_iload C dX5_meets_73 4 rfl ?_
      refine r_bind (fun a12 ha12 => ?_)
      refine r_callV (rest := []) (st2 := []) C (mX5_lends (eL E) C.z _ _ σ x2 x1 x4 a12 ha12) lk_X5_138 (rvM C) (by decide) rfl rfl (Nat.le_of_ble_eq_true rfl) dX5_meets_75 rfl ?_
      exact r_vret C dX5_meets_78 rfl
    · refine r_iinc (v := (x4 + 1)) (lv' := [(4, .int (x4 + 1)), (0, .ref (zA Z 6 0)), (1, .int x1), (2, .int x2), (3, .int x3)]) C dX5_meets_64 4 rfl rfl (by decide) rfl ?_
      refine r_goto (tgt := 55) C dX5_meets_67 (by decide) ?_
      refine r_lv [1, 2, 3, 4, 0] (lv' := [(0, .ref (zA Z 6 0)), (1, .int x1), (2, .int x2), (3, .int x3), (4, .int (x4 + 1))]) rfl ?_
      exact ih σ x1 x2 x3 (x4 + 1)
noncomputable def fX5_meets   (σ : Nat → Int32) (x1 : Int32) (x2 : Int32) : Option ((Nat → Int32)) := (Option.bind (fX5_its σ x2 2) (fun a1 => (Option.bind (fX5_its σ x1 2) (fun a2 => (Option.bind (fX5_its σ x1 1) (fun a3 => (Option.bind (fX5_its σ x2 1) (fun a4 => (if a3 = a4 then (Option.bind (fX5_its σ x2 2) (fun a6 => (Option.bind (fX5_ones a6) (fun a7 => (Option.bind (fX5_its σ x1 2) (fun a8 => (Option.bind (fX5_ones a8) (fun a9 => (if a7 ≤ a9 then (some σ) else (fX5_meets_55 fu σ x1 x2 (a1 &&& (a2 ^^^ (-1))) 0)))))))))) else (some σ))))))))))
theorem bX5_meets {Z : Zt} {E : Ec} {M0 : Mi} {N : Ml} (C : Ok 2 Z E cX5_meets 5 RX5 none 2)    (σ : Nat → Int32) (x1 : Int32) (x2 : Int32)  : GT Z E 5 (finX5_meets M0 N) 0 [(0, .ref (zA Z 6 0)), (1, .int x1), (2, .int x2)] [] (sR M0 0 σ) N (fX5_meets σ x1 x2) := by
  unfold fX5_meets
  refine r_aload_n C dX5_meets_0 0 0 rfl rfl ?_
  refine r_iload_n C dX5_meets_1 2 2 rfl rfl ?_
  refine r_iconst (v := 2) C dX5_meets_2 (by decide) ?_
  refine r_bind (fun a1 ha1 => ?_)
  refine r_callV (rest := []) (st2 := [.int a1]) C (mX5_its (eL E) C.z _ _ σ x2 2 a1 ha1) lk_X5_83 (rvM C) (by decide) rfl rfl (Nat.le_of_ble_eq_true rfl) dX5_meets_3 rfl ?_
  refine r_aload_n C dX5_meets_6 0 0 rfl rfl ?_
  refine r_iload_n C dX5_meets_7 1 1 rfl rfl ?_
  refine r_iconst (v := 2) C dX5_meets_8 (by decide) ?_
  refine r_bind (fun a2 ha2 => ?_)
  refine r_callV (rest := [.int a1]) (st2 := [.int a2, .int a1]) C (mX5_its (eL E) C.z _ _ σ x1 2 a2 ha2) lk_X5_83 (rvM C) (by decide) rfl rfl (Nat.le_of_ble_eq_true rfl) dX5_meets_9 rfl ?_
  refine r_iconst (v := (-1)) C dX5_meets_12 (by decide) ?_
  refine r_ixor C dX5_meets_13 ?_
  refine r_iand C dX5_meets_14 ?_
  refine r_istore_n (lv' := [(3, .int (a1 &&& (a2 ^^^ (-1)))), (0, .ref (zA Z 6 0)), (1, .int x1), (2, .int x2)]) C dX5_meets_15 3 rfl (by decide) rfl ?_
  refine r_aload_n C dX5_meets_16 0 1 rfl rfl ?_
  refine r_iload_n C dX5_meets_17 1 2 rfl rfl ?_
  refine r_iconst (v := 1) C dX5_meets_18 (by decide) ?_
  refine r_bind (fun a3 ha3 => ?_)
  refine r_callV (rest := []) (st2 := [.int a3]) C (mX5_its (eL E) C.z _ _ σ x1 1 a3 ha3) lk_X5_83 (rvM C) (by decide) rfl rfl (Nat.le_of_ble_eq_true rfl) dX5_meets_19 rfl ?_
  refine r_aload_n C dX5_meets_22 0 1 rfl rfl ?_
  refine r_iload_n C dX5_meets_23 2 3 rfl rfl ?_
  refine r_iconst (v := 1) C dX5_meets_24 (by decide) ?_
  refine r_bind (fun a4 ha4 => ?_)
  refine r_callV (rest := [.int a3]) (st2 := [.int a4, .int a3]) C (mX5_its (eL E) C.z _ _ σ x2 1 a4 ha4) lk_X5_83 (rvM C) (by decide) rfl rfl (Nat.le_of_ble_eq_true rfl) dX5_meets_25 rfl ?_
  refine r_ic_ne (tgt := 78) C dX5_meets_28 (by decide) (fun c5 => ?_) (fun c5 => ?_)
  · exact r_vret C dX5_meets_78 rfl
  · refine r_aload_n C dX5_meets_31 0 1 rfl rfl ?_
    refine r_iload_n C dX5_meets_32 2 3 rfl rfl ?_
    refine r_iconst (v := 2) C dX5_meets_33 (by decide) ?_
    refine r_bind (fun a6 ha6 => ?_)
    refine r_callV (rest := []) (st2 := [.int a6]) C (mX5_its (eL E) C.z _ _ σ x2 2 a6 ha6) lk_X5_83 (rvM C) (by decide) rfl rfl (Nat.le_of_ble_eq_true rfl) dX5_meets_34 rfl ?_
    refine r_bind (fun a7 ha7 => ?_)
    refine r_callS (rest := []) (st2 := [.int a7]) C (mX5_ones (eL E) C.z _ _ a6 a7 ha7) lk_X5_145 (by decide) rfl rfl (Nat.le_of_ble_eq_true rfl) dX5_meets_37 rfl ?_
    refine r_aload_n C dX5_meets_40 0 1 rfl rfl ?_
    refine r_iload_n C dX5_meets_41 1 2 rfl rfl ?_
    refine r_iconst (v := 2) C dX5_meets_42 (by decide) ?_
    refine r_bind (fun a8 ha8 => ?_)
    refine r_callV (rest := [.int a7]) (st2 := [.int a8, .int a7]) C (mX5_its (eL E) C.z _ _ σ x1 2 a8 ha8) lk_X5_83 (rvM C) (by decide) rfl rfl (Nat.le_of_ble_eq_true rfl) dX5_meets_43 rfl ?_
    refine r_bind (fun a9 ha9 => ?_)
    refine r_callS (rest := [.int a7]) (st2 := [.int a9, .int a7]) C (mX5_ones (eL E) C.z _ _ a8 a9 ha9) lk_X5_145 (by decide) rfl rfl (Nat.le_of_ble_eq_true rfl) dX5_meets_46 rfl ?_
    refine r_ic_le (tgt := 78) C dX5_meets_49 (by decide) (fun c10 => ?_) (fun c10 => ?_)
    · exact r_vret C dX5_meets_78 rfl
    · refine r_iconst (v := 0) C dX5_meets_52 (by decide) ?_
      refine r_istore (lv' := [(4, .int 0), (3, .int (a1 &&& (a2 ^^^ (-1)))), (0, .ref (zA Z 6 0)), (1, .int x1), (2, .int x2)]) C dX5_meets_53 (by decide) rfl ?_
      refine r_lv [2, 3, 4, 1, 0] (lv' := [(0, .ref (zA Z 6 0)), (1, .int x1), (2, .int x2), (3, .int (a1 &&& (a2 ^^^ (-1)))), (4, .int 0)]) rfl ?_
      exact bX5_meets_55 C fu σ x1 x2 (a1 &&& (a2 ^^^ (-1))) 0
theorem mX5_meets (l : Launch) {Z : Zt} (hZ : Zok 2 Z) (M0 : Mi) (N : Ml) (σ : Nat → Int32) (x1 : Int32) (x2 : Int32) (b : (Nat → Int32)) (hb : fX5_meets σ x1 x2 = some b) : Ct 2 Z l yX5_meets cX5_meets 5 none 2 [.ref (zA Z 6 0), .int x1, .int x2] (sR M0 0 σ) N (none, sR M0 0 (b), N) :=
  metG (fin := (finX5_meets M0 N)) (by decide) (Nat.le_of_ble_eq_true rfl) (fun E _ C => bX5_meets C σ x1 x2) hb
theorem dX5_hour_0 : decode cX5_hour 0 = .ok (.iconst 0, 1) := by decide +kernel
theorem dX5_hour_1 : decode cX5_hour 1 = .ok (.istore_n 1, 1) := by decide +kernel
theorem dX5_hour_2 : decode cX5_hour 2 = .ok (.iload_n 1, 1) := by decide +kernel
theorem dX5_hour_3 : decode cX5_hour 3 = .ok (.aload_n 0, 1) := by decide +kernel
theorem dX5_hour_4 : decode cX5_hour 4 = .ok (.getfield 7, 3) := by decide +kernel
theorem dX5_hour_7 : decode cX5_hour 7 = .ok (.iconst 1, 1) := by decide +kernel
theorem dX5_hour_8 : decode cX5_hour 8 = .ok (.iaload, 1) := by decide +kernel
theorem dX5_hour_9 : decode cX5_hour 9 = .ok (.if_icmp .ge 23, 3) := by decide +kernel
theorem dX5_hour_12 : decode cX5_hour 12 = .ok (.aload_n 0, 1) := by decide +kernel
theorem dX5_hour_13 : decode cX5_hour 13 = .ok (.iload_n 1, 1) := by decide +kernel
theorem dX5_hour_14 : decode cX5_hour 14 = .ok (.iconst 3, 1) := by decide +kernel
theorem dX5_hour_15 : decode cX5_hour 15 = .ok (.invokevirtual 83, 3) := by decide +kernel
theorem dX5_hour_18 : decode cX5_hour 18 = .ok (.ifCond .ne 8, 3) := by decide +kernel
theorem dX5_hour_21 : decode cX5_hour 21 = .ok (.aload_n 0, 1) := by decide +kernel
theorem dX5_hour_22 : decode cX5_hour 22 = .ok (.iload_n 1, 1) := by decide +kernel
theorem dX5_hour_23 : decode cX5_hour 23 = .ok (.invokevirtual 148, 3) := by decide +kernel
theorem dX5_hour_26 : decode cX5_hour 26 = .ok (.iinc 1 1, 3) := by decide +kernel
theorem dX5_hour_29 : decode cX5_hour 29 = .ok (.goto (-27), 3) := by decide +kernel
theorem dX5_hour_32 : decode cX5_hour 32 = .ok (.iconst 0, 1) := by decide +kernel
theorem dX5_hour_33 : decode cX5_hour 33 = .ok (.istore_n 1, 1) := by decide +kernel
theorem dX5_hour_34 : decode cX5_hour 34 = .ok (.iload_n 1, 1) := by decide +kernel
theorem dX5_hour_35 : decode cX5_hour 35 = .ok (.aload_n 0, 1) := by decide +kernel
theorem dX5_hour_36 : decode cX5_hour 36 = .ok (.getfield 7, 3) := by decide +kernel
theorem dX5_hour_39 : decode cX5_hour 39 = .ok (.iconst 1, 1) := by decide +kernel
theorem dX5_hour_40 : decode cX5_hour 40 = .ok (.iaload, 1) := by decide +kernel
theorem dX5_hour_41 : decode cX5_hour 41 = .ok (.if_icmp .ge 35, 3) := by decide +kernel
theorem dX5_hour_44 : decode cX5_hour 44 = .ok (.iload_n 1, 1) := by decide +kernel
theorem dX5_hour_45 : decode cX5_hour 45 = .ok (.iconst 1, 1) := by decide +kernel
theorem dX5_hour_46 : decode cX5_hour 46 = .ok (.iadd, 1) := by decide +kernel
theorem dX5_hour_47 : decode cX5_hour 47 = .ok (.istore_n 2, 1) := by decide +kernel
theorem dX5_hour_48 : decode cX5_hour 48 = .ok (.iload_n 2, 1) := by decide +kernel
theorem dX5_hour_49 : decode cX5_hour 49 = .ok (.aload_n 0, 1) := by decide +kernel
theorem dX5_hour_50 : decode cX5_hour 50 = .ok (.getfield 7, 3) := by decide +kernel
theorem dX5_hour_53 : decode cX5_hour 53 = .ok (.iconst 1, 1) := by decide +kernel
theorem dX5_hour_54 : decode cX5_hour 54 = .ok (.iaload, 1) := by decide +kernel
theorem dX5_hour_55 : decode cX5_hour 55 = .ok (.if_icmp .ge 15, 3) := by decide +kernel
theorem dX5_hour_58 : decode cX5_hour 58 = .ok (.aload_n 0, 1) := by decide +kernel
theorem dX5_hour_59 : decode cX5_hour 59 = .ok (.iload_n 1, 1) := by decide +kernel
theorem dX5_hour_60 : decode cX5_hour 60 = .ok (.iload_n 2, 1) := by decide +kernel
theorem dX5_hour_61 : decode cX5_hour 61 = .ok (.invokevirtual 152, 3) := by decide +kernel
theorem dX5_hour_64 : decode cX5_hour 64 = .ok (.iinc 2 1, 3) := by decide +kernel
theorem dX5_hour_67 : decode cX5_hour 67 = .ok (.goto (-19), 3) := by decide +kernel
theorem dX5_hour_70 : decode cX5_hour 70 = .ok (.iinc 1 1, 3) := by decide +kernel
theorem dX5_hour_73 : decode cX5_hour 73 = .ok (.goto (-39), 3) := by decide +kernel
theorem dX5_hour_76 : decode cX5_hour 76 = .ok (.aload_n 0, 1) := by decide +kernel
theorem dX5_hour_77 : decode cX5_hour 77 = .ok (.getfield 7, 3) := by decide +kernel
theorem dX5_hour_80 : decode cX5_hour 80 = .ok (.iconst 0, 1) := by decide +kernel
theorem dX5_hour_81 : decode cX5_hour 81 = .ok (.dup2, 1) := by decide +kernel
theorem dX5_hour_82 : decode cX5_hour 82 = .ok (.iaload, 1) := by decide +kernel
theorem dX5_hour_83 : decode cX5_hour 83 = .ok (.iconst 1, 1) := by decide +kernel
theorem dX5_hour_84 : decode cX5_hour 84 = .ok (.iadd, 1) := by decide +kernel
theorem dX5_hour_85 : decode cX5_hour 85 = .ok (.iastore, 1) := by decide +kernel
theorem dX5_hour_86 : decode cX5_hour 86 = .ok (.return_, 1) := by decide +kernel
def finX5_hour (M0 : Mi) (N : Ml) : (Nat → Int32) → Option Value × Mi × Ml := fun b => (none, sR M0 0 (b), N)
noncomputable def fX5_hour_48  (r70 : (Nat → Int32) → Int32 → Option ((Nat → Int32))) : Nat → (Nat → Int32) → Int32 → Int32 → Option ((Nat → Int32))
  | 0 => fun _ _ _ => none
  | n + 1 => fun σ x1 x2 => (if (σ 1) ≤ x2 then (r70 σ x1) else (Option.bind (fX5_meets σ x1 x2) (fun a4 => ((fX5_hour_48 r70 n) a4 x1 (x2 + 1)))))
theorem bX5_hour_48 {Z : Zt} {E : Ec} {M0 : Mi} {N : Ml} (C : Ok 2 Z E cX5_hour 3 RX5 none 4)  (r70 : (Nat → Int32) → Int32 → Option ((Nat → Int32))) (hr70 : ∀ (σ : Nat → Int32) (x1 : Int32), GT Z E 3 (finX5_hour M0 N) 70 [(0, .ref (zA Z 6 0)), (1, .int x1)] [] (sR M0 0 σ) N (r70 σ x1)) : ∀ (n : Nat) (σ : Nat → Int32) (x1 : Int32) (x2 : Int32), GT Z E 3 (finX5_hour M0 N) 48 [(0, .ref (zA Z 6 0)), (1, .int x1), (2, .int x2)] [] (sR M0 0 σ) N (fX5_hour_48 r70 n σ x1 x2) := by
  intro n
  induction n with
  | zero => intro σ x1 x2; exact r_none
  | succ n ih =>
    intro σ x1 x2
    rw [fX5_hour_48]
    refine r_iload_n C dX5_hour_48 2 2 rfl rfl ?_
    refine r_aload_n C dX5_hour_49 0 0 rfl rfl ?_
    refine gf_X5_7 C dX5_hour_50 ?_
    refine r_iconst (v := 1) C dX5_hour_53 (by decide) ?_
    refine ald_M (v := (σ 1)) C mI_0 (by decide) (sR_at _ _ _ _) dX5_hour_54 ?_
    refine r_ic_ge (tgt := 70) C dX5_hour_55 (by decide) (fun c3 => ?_) (fun c3 => ?_)
    · refine r_lv [0, 1] (lv' := [(0, .ref (zA Z 6 0)), (1, .int x1)]) rfl ?_
      exact hr70 σ x1
    · refine r_aload_n C dX5_hour_58 0 0 rfl rfl ?_
      refine r_iload_n C dX5_hour_59 1 1 rfl rfl ?_
      refine r_iload_n C dX5_hour_60 2 2 rfl rfl ?_
      refine r_bind (fun a4 ha4 => ?_)
      refine r_callV (rest := []) (st2 := []) C (mX5_meets (eL E) C.z _ _ σ x1 x2 a4 ha4) lk_X5_152 (rvM C) (by decide) rfl rfl (Nat.le_of_ble_eq_true rfl) dX5_hour_61 rfl ?_
      refine r_iinc (v := (x2 + 1)) (lv' := [(2, .int (x2 + 1)), (0, .ref (zA Z 6 0)), (1, .int x1)]) C dX5_hour_64 2 rfl rfl (by decide) rfl ?_
      refine r_goto (tgt := 48) C dX5_hour_67 (by decide) ?_
      refine r_lv [1, 2, 0] (lv' := [(0, .ref (zA Z 6 0)), (1, .int x1), (2, .int (x2 + 1))]) rfl ?_
      exact ih a4 x1 (x2 + 1)
noncomputable def fX5_hour_70  (r34 : (Nat → Int32) → Int32 → Option ((Nat → Int32))) (σ : Nat → Int32) (x1 : Int32) : Option ((Nat → Int32)) := (r34 σ (x1 + 1))
theorem bX5_hour_70 {Z : Zt} {E : Ec} {M0 : Mi} {N : Ml} (C : Ok 2 Z E cX5_hour 3 RX5 none 4)  (r34 : (Nat → Int32) → Int32 → Option ((Nat → Int32))) (hr34 : ∀ (σ : Nat → Int32) (x1 : Int32), GT Z E 3 (finX5_hour M0 N) 34 [(0, .ref (zA Z 6 0)), (1, .int x1)] [] (sR M0 0 σ) N (r34 σ x1)) (σ : Nat → Int32) (x1 : Int32)  : GT Z E 3 (finX5_hour M0 N) 70 [(0, .ref (zA Z 6 0)), (1, .int x1)] [] (sR M0 0 σ) N (fX5_hour_70 r34 σ x1) := by
  unfold fX5_hour_70
  refine r_iinc (v := (x1 + 1)) (lv' := [(1, .int (x1 + 1)), (0, .ref (zA Z 6 0))]) C dX5_hour_70 1 rfl rfl (by decide) rfl ?_
  refine r_goto (tgt := 34) C dX5_hour_73 (by decide) ?_
  refine r_lv [1, 0] (lv' := [(0, .ref (zA Z 6 0)), (1, .int (x1 + 1))]) rfl ?_
  exact hr34 σ (x1 + 1)
noncomputable def fX5_hour_34   : Nat → (Nat → Int32) → Int32 → Option ((Nat → Int32))
  | 0 => fun _ _ => none
  | n + 1 => fun σ x1 => (if (σ 1) ≤ x1 then (some (upd σ 0 ((σ 0) + 1))) else (fX5_hour_48 (fX5_hour_70 (fX5_hour_34 n)) fu σ x1 (x1 + 1)))
theorem bX5_hour_34 {Z : Zt} {E : Ec} {M0 : Mi} {N : Ml} (C : Ok 2 Z E cX5_hour 3 RX5 none 4)    : ∀ (n : Nat) (σ : Nat → Int32) (x1 : Int32), GT Z E 3 (finX5_hour M0 N) 34 [(0, .ref (zA Z 6 0)), (1, .int x1)] [] (sR M0 0 σ) N (fX5_hour_34 n σ x1) := by
  intro n
  induction n with
  | zero => intro σ x1; exact r_none
  | succ n ih =>
    intro σ x1
    rw [fX5_hour_34]
    refine r_iload_n C dX5_hour_34 1 1 rfl rfl ?_
    refine r_aload_n C dX5_hour_35 0 0 rfl rfl ?_
    refine gf_X5_7 C dX5_hour_36 ?_
    refine r_iconst (v := 1) C dX5_hour_39 (by decide) ?_
    refine ald_M (v := (σ 1)) C mI_0 (by decide) (sR_at _ _ _ _) dX5_hour_40 ?_
    refine r_ic_ge (tgt := 76) C dX5_hour_41 (by decide) (fun c2 => ?_) (fun c2 => ?_)
    · refine r_aload_n C dX5_hour_76 0 0 rfl rfl ?_
      refine gf_X5_7 C dX5_hour_77 ?_
      refine r_iconst (v := 0) C dX5_hour_80 (by decide) ?_
      refine r_dup2 C dX5_hour_81 rfl rfl ?_
      refine ald_M (v := (σ 0)) C mI_0 (by decide) (sR_at _ _ _ _) dX5_hour_82 ?_
      refine r_iconst (v := 1) C dX5_hour_83 (by decide) ?_
      refine r_iadd C dX5_hour_84 ?_
      refine ast_M (M' := (sR M0 0 (upd σ 0 ((σ 0) + 1)))) C mI_0 (by decide) (wM_sR _ _ _ _ _) dX5_hour_85 ?_
      exact r_vret C dX5_hour_86 rfl
    · refine r_iload_n C dX5_hour_44 1 1 rfl rfl ?_
      refine r_iconst (v := 1) C dX5_hour_45 (by decide) ?_
      refine r_iadd C dX5_hour_46 ?_
      refine r_istore_n (lv' := [(2, .int (x1 + 1)), (0, .ref (zA Z 6 0)), (1, .int x1)]) C dX5_hour_47 2 rfl (by decide) rfl ?_
      refine r_lv [1, 2, 0] (lv' := [(0, .ref (zA Z 6 0)), (1, .int x1), (2, .int (x1 + 1))]) rfl ?_
      exact bX5_hour_48 C (fX5_hour_70 (fX5_hour_34 n)) (bX5_hour_70 C (fX5_hour_34 n) ih) fu σ x1 (x1 + 1)
noncomputable def fX5_hour_2   : Nat → (Nat → Int32) → Int32 → Option ((Nat → Int32))
  | 0 => fun _ _ => none
  | n + 1 => fun σ x1 => (if (σ 1) ≤ x1 then (fX5_hour_34 fu σ 0) else (Option.bind (fX5_its σ x1 3) (fun a5 => (if a5 = 0 then (Option.bind (fX5_goes σ x1) (fun a7 => ((fX5_hour_2 n) a7 (x1 + 1)))) else ((fX5_hour_2 n) σ (x1 + 1))))))
theorem bX5_hour_2 {Z : Zt} {E : Ec} {M0 : Mi} {N : Ml} (C : Ok 2 Z E cX5_hour 3 RX5 none 4)    : ∀ (n : Nat) (σ : Nat → Int32) (x1 : Int32), GT Z E 3 (finX5_hour M0 N) 2 [(0, .ref (zA Z 6 0)), (1, .int x1)] [] (sR M0 0 σ) N (fX5_hour_2 n σ x1) := by
  intro n
  induction n with
  | zero => intro σ x1; exact r_none
  | succ n ih =>
    intro σ x1
    rw [fX5_hour_2]
    refine r_iload_n C dX5_hour_2 1 1 rfl rfl ?_
    refine r_aload_n C dX5_hour_3 0 0 rfl rfl ?_
    refine gf_X5_7 C dX5_hour_4 ?_
    refine r_iconst (v := 1) C dX5_hour_7 (by decide) ?_
    refine ald_M (v := (σ 1)) C mI_0 (by decide) (sR_at _ _ _ _) dX5_hour_8 ?_
    refine r_ic_ge (tgt := 32) C dX5_hour_9 (by decide) (fun c1 => ?_) (fun c1 => ?_)
    · refine r_iconst (v := 0) C dX5_hour_32 (by decide) ?_
      refine r_istore_n (lv' := [(1, .int 0), (0, .ref (zA Z 6 0))]) C dX5_hour_33 1 rfl (by decide) rfl ?_
      refine r_lv [1, 0] (lv' := [(0, .ref (zA Z 6 0)), (1, .int 0)]) rfl ?_
      exact bX5_hour_34 C fu σ 0
    · refine r_aload_n C dX5_hour_12 0 0 rfl rfl ?_
      refine r_iload_n C dX5_hour_13 1 1 rfl rfl ?_
      refine r_iconst (v := 3) C dX5_hour_14 (by decide) ?_
      refine r_bind (fun a5 ha5 => ?_)
      refine r_callV (rest := []) (st2 := [.int a5]) C (mX5_its (eL E) C.z _ _ σ x1 3 a5 ha5) lk_X5_83 (rvM C) (by decide) rfl rfl (Nat.le_of_ble_eq_true rfl) dX5_hour_15 rfl ?_
      refine r_if_ne (tgt := 26) C dX5_hour_18 (by decide) (fun c6 => ?_) (fun c6 => ?_)
      · refine r_iinc (v := (x1 + 1)) (lv' := [(1, .int (x1 + 1)), (0, .ref (zA Z 6 0))]) C dX5_hour_26 1 rfl rfl (by decide) rfl ?_
        refine r_goto (tgt := 2) C dX5_hour_29 (by decide) ?_
        refine r_lv [1, 0] (lv' := [(0, .ref (zA Z 6 0)), (1, .int (x1 + 1))]) rfl ?_
        exact ih σ (x1 + 1)
      · refine r_aload_n C dX5_hour_21 0 0 rfl rfl ?_
        refine r_iload_n C dX5_hour_22 1 1 rfl rfl ?_
        refine r_bind (fun a7 ha7 => ?_)
        refine r_callV (rest := []) (st2 := []) C (mX5_goes (eL E) C.z _ _ σ x1 a7 ha7) lk_X5_148 (rvM C) (by decide) rfl rfl (Nat.le_of_ble_eq_true rfl) dX5_hour_23 rfl ?_
        refine r_iinc (v := (x1 + 1)) (lv' := [(1, .int (x1 + 1)), (0, .ref (zA Z 6 0))]) C dX5_hour_26 1 rfl rfl (by decide) rfl ?_
        refine r_goto (tgt := 2) C dX5_hour_29 (by decide) ?_
        refine r_lv [1, 0] (lv' := [(0, .ref (zA Z 6 0)), (1, .int (x1 + 1))]) rfl ?_
        exact ih a7 (x1 + 1)
noncomputable def fX5_hour   (σ : Nat → Int32) : Option ((Nat → Int32)) := (fX5_hour_2 fu σ 0)
theorem bX5_hour {Z : Zt} {E : Ec} {M0 : Mi} {N : Ml} (C : Ok 2 Z E cX5_hour 3 RX5 none 4)    (σ : Nat → Int32)  : GT Z E 3 (finX5_hour M0 N) 0 [(0, .ref (zA Z 6 0))] [] (sR M0 0 σ) N (fX5_hour σ) := by
  unfold fX5_hour
  refine r_iconst (v := 0) C dX5_hour_0 (by decide) ?_
  refine r_istore_n (lv' := [(1, .int 0), (0, .ref (zA Z 6 0))]) C dX5_hour_1 1 rfl (by decide) rfl ?_
  refine r_lv [1, 0] (lv' := [(0, .ref (zA Z 6 0)), (1, .int 0)]) rfl ?_
  exact bX5_hour_2 C fu σ 0
theorem mX5_hour (l : Launch) {Z : Zt} (hZ : Zok 2 Z) (M0 : Mi) (N : Ml) (σ : Nat → Int32) (b : (Nat → Int32)) (hb : fX5_hour σ = some b) : Ct 2 Z l yX5_hour cX5_hour 3 none 4 [.ref (zA Z 6 0)] (sR M0 0 σ) N (none, sR M0 0 (b), N) :=
  metG (fin := (finX5_hour M0 N)) (by decide) (Nat.le_of_ble_eq_true rfl) (fun E _ C => bX5_hour C σ) hb
theorem dX5_go_0 : decode cX5_go 0 = .ok (.iconst 0, 1) := by decide +kernel
theorem dX5_go_1 : decode cX5_go 1 = .ok (.istore_n 2, 1) := by decide +kernel
theorem dX5_go_2 : decode cX5_go 2 = .ok (.iload_n 2, 1) := by decide +kernel
theorem dX5_go_3 : decode cX5_go 3 = .ok (.iload_n 1, 1) := by decide +kernel
theorem dX5_go_4 : decode cX5_go 4 = .ok (.if_icmp .ge 13, 3) := by decide +kernel
theorem dX5_go_7 : decode cX5_go 7 = .ok (.aload_n 0, 1) := by decide +kernel
theorem dX5_go_8 : decode cX5_go 8 = .ok (.invokevirtual 155, 3) := by decide +kernel
theorem dX5_go_11 : decode cX5_go 11 = .ok (.iinc 2 1, 3) := by decide +kernel
theorem dX5_go_14 : decode cX5_go 14 = .ok (.goto (-12), 3) := by decide +kernel
theorem dX5_go_17 : decode cX5_go 17 = .ok (.return_, 1) := by decide +kernel
def finX5_go (M0 : Mi) (N : Ml) : (Nat → Int32) → Option Value × Mi × Ml := fun b => (none, sR M0 0 (b), N)
noncomputable def fX5_go_2   : Nat → (Nat → Int32) → Int32 → Int32 → Option ((Nat → Int32))
  | 0 => fun _ _ _ => none
  | n + 1 => fun σ x1 x2 => (if x1 ≤ x2 then (some σ) else (Option.bind (fX5_hour σ) (fun a2 => ((fX5_go_2 n) a2 x1 (x2 + 1)))))
theorem bX5_go_2 {Z : Zt} {E : Ec} {M0 : Mi} {N : Ml} (C : Ok 2 Z E cX5_go 3 RX5 none 5)    : ∀ (n : Nat) (σ : Nat → Int32) (x1 : Int32) (x2 : Int32), GT Z E 3 (finX5_go M0 N) 2 [(0, .ref (zA Z 6 0)), (1, .int x1), (2, .int x2)] [] (sR M0 0 σ) N (fX5_go_2 n σ x1 x2) := by
  intro n
  induction n with
  | zero => intro σ x1 x2; exact r_none
  | succ n ih =>
    intro σ x1 x2
    rw [fX5_go_2]
    refine r_iload_n C dX5_go_2 2 2 rfl rfl ?_
    refine r_iload_n C dX5_go_3 1 1 rfl rfl ?_
    refine r_ic_ge (tgt := 17) C dX5_go_4 (by decide) (fun c1 => ?_) (fun c1 => ?_)
    · exact r_vret C dX5_go_17 rfl
    · refine r_aload_n C dX5_go_7 0 0 rfl rfl ?_
      refine r_bind (fun a2 ha2 => ?_)
      refine r_callV (rest := []) (st2 := []) C (mX5_hour (eL E) C.z _ _ σ a2 ha2) lk_X5_155 (rvM C) (by decide) rfl rfl (Nat.le_of_ble_eq_true rfl) dX5_go_8 rfl ?_
      refine r_iinc (v := (x2 + 1)) (lv' := [(2, .int (x2 + 1)), (0, .ref (zA Z 6 0)), (1, .int x1)]) C dX5_go_11 2 rfl rfl (by decide) rfl ?_
      refine r_goto (tgt := 2) C dX5_go_14 (by decide) ?_
      refine r_lv [1, 2, 0] (lv' := [(0, .ref (zA Z 6 0)), (1, .int x1), (2, .int (x2 + 1))]) rfl ?_
      exact ih a2 x1 (x2 + 1)
noncomputable def fX5_go   (σ : Nat → Int32) (x1 : Int32) : Option ((Nat → Int32)) := (fX5_go_2 fu σ x1 0)
theorem bX5_go {Z : Zt} {E : Ec} {M0 : Mi} {N : Ml} (C : Ok 2 Z E cX5_go 3 RX5 none 5)    (σ : Nat → Int32) (x1 : Int32)  : GT Z E 3 (finX5_go M0 N) 0 [(0, .ref (zA Z 6 0)), (1, .int x1)] [] (sR M0 0 σ) N (fX5_go σ x1) := by
  unfold fX5_go
  refine r_iconst (v := 0) C dX5_go_0 (by decide) ?_
  refine r_istore_n (lv' := [(2, .int 0), (0, .ref (zA Z 6 0)), (1, .int x1)]) C dX5_go_1 2 rfl (by decide) rfl ?_
  refine r_lv [1, 2, 0] (lv' := [(0, .ref (zA Z 6 0)), (1, .int x1), (2, .int 0)]) rfl ?_
  exact bX5_go_2 C fu σ x1 0
theorem mX5_go (l : Launch) {Z : Zt} (hZ : Zok 2 Z) (M0 : Mi) (N : Ml) (σ : Nat → Int32) (x1 : Int32) (b : (Nat → Int32)) (hb : fX5_go σ x1 = some b) : Ct 2 Z l yX5_go cX5_go 3 none 5 [.ref (zA Z 6 0), .int x1] (sR M0 0 σ) N (none, sR M0 0 (b), N) :=
  metG (fin := (finX5_go M0 N)) (by decide) (Nat.le_of_ble_eq_true rfl) (fun E _ C => bX5_go C σ x1) hb
theorem dX5_allBooks_0 : decode cX5_allBooks 0 = .ok (.iconst 0, 1) := by decide +kernel
theorem dX5_allBooks_1 : decode cX5_allBooks 1 = .ok (.istore_n 1, 1) := by decide +kernel
theorem dX5_allBooks_2 : decode cX5_allBooks 2 = .ok (.iconst 0, 1) := by decide +kernel
theorem dX5_allBooks_3 : decode cX5_allBooks 3 = .ok (.istore_n 2, 1) := by decide +kernel
theorem dX5_allBooks_4 : decode cX5_allBooks 4 = .ok (.iload_n 2, 1) := by decide +kernel
theorem dX5_allBooks_5 : decode cX5_allBooks 5 = .ok (.aload_n 0, 1) := by decide +kernel
theorem dX5_allBooks_6 : decode cX5_allBooks 6 = .ok (.getfield 7, 3) := by decide +kernel
theorem dX5_allBooks_9 : decode cX5_allBooks 9 = .ok (.iconst 1, 1) := by decide +kernel
theorem dX5_allBooks_10 : decode cX5_allBooks 10 = .ok (.iaload, 1) := by decide +kernel
theorem dX5_allBooks_11 : decode cX5_allBooks 11 = .ok (.if_icmp .ge 21, 3) := by decide +kernel
theorem dX5_allBooks_14 : decode cX5_allBooks 14 = .ok (.iload_n 1, 1) := by decide +kernel
theorem dX5_allBooks_15 : decode cX5_allBooks 15 = .ok (.aload_n 0, 1) := by decide +kernel
theorem dX5_allBooks_16 : decode cX5_allBooks 16 = .ok (.iload_n 2, 1) := by decide +kernel
theorem dX5_allBooks_17 : decode cX5_allBooks 17 = .ok (.iconst 2, 1) := by decide +kernel
theorem dX5_allBooks_18 : decode cX5_allBooks 18 = .ok (.invokevirtual 83, 3) := by decide +kernel
theorem dX5_allBooks_21 : decode cX5_allBooks 21 = .ok (.invokestatic 145, 3) := by decide +kernel
theorem dX5_allBooks_24 : decode cX5_allBooks 24 = .ok (.iadd, 1) := by decide +kernel
theorem dX5_allBooks_25 : decode cX5_allBooks 25 = .ok (.istore_n 1, 1) := by decide +kernel
theorem dX5_allBooks_26 : decode cX5_allBooks 26 = .ok (.iinc 2 1, 3) := by decide +kernel
theorem dX5_allBooks_29 : decode cX5_allBooks 29 = .ok (.goto (-25), 3) := by decide +kernel
theorem dX5_allBooks_32 : decode cX5_allBooks 32 = .ok (.iload_n 1, 1) := by decide +kernel
theorem dX5_allBooks_33 : decode cX5_allBooks 33 = .ok (.ireturn, 1) := by decide +kernel
def finX5_allBooks (M0 : Mi) (σ : Nat → Int32) (N : Ml) : Int32 → Option Value × Mi × Ml := fun b => (some (Value.int b), sR M0 0 σ, N)
noncomputable def fX5_allBooks_4 (σ : Nat → Int32)  : Nat → Int32 → Int32 → Option (Int32)
  | 0 => fun _ _ => none
  | n + 1 => fun x1 x2 => (if (σ 1) ≤ x2 then (some x1) else (Option.bind (fX5_its σ x2 2) (fun a2 => (Option.bind (fX5_ones a2) (fun a3 => ((fX5_allBooks_4 σ n) (x1 + a3) (x2 + 1)))))))
theorem bX5_allBooks_4 {Z : Zt} {E : Ec} {M0 : Mi} {σ : Nat → Int32} {N : Ml} (C : Ok 2 Z E cX5_allBooks 3 RX5 (some .int) 2)    : ∀ (n : Nat) (x1 : Int32) (x2 : Int32), GT Z E 3 (finX5_allBooks M0 σ N) 4 [(0, .ref (zA Z 6 0)), (1, .int x1), (2, .int x2)] [] (sR M0 0 σ) N (fX5_allBooks_4 σ n x1 x2) := by
  intro n
  induction n with
  | zero => intro x1 x2; exact r_none
  | succ n ih =>
    intro x1 x2
    rw [fX5_allBooks_4]
    refine r_iload_n C dX5_allBooks_4 2 2 rfl rfl ?_
    refine r_aload_n C dX5_allBooks_5 0 0 rfl rfl ?_
    refine gf_X5_7 C dX5_allBooks_6 ?_
    refine r_iconst (v := 1) C dX5_allBooks_9 (by decide) ?_
    refine ald_M (v := (σ 1)) C mI_0 (by decide) (sR_at _ _ _ _) dX5_allBooks_10 ?_
    refine r_ic_ge (tgt := 32) C dX5_allBooks_11 (by decide) (fun c1 => ?_) (fun c1 => ?_)
    · refine r_iload_n C dX5_allBooks_32 1 1 rfl rfl ?_
      exact r_iret C dX5_allBooks_33 rfl
    · refine r_iload_n C dX5_allBooks_14 1 1 rfl rfl ?_
      refine r_aload_n C dX5_allBooks_15 0 0 rfl rfl ?_
      refine r_iload_n C dX5_allBooks_16 2 2 rfl rfl ?_
      refine r_iconst (v := 2) C dX5_allBooks_17 (by decide) ?_
      refine r_bind (fun a2 ha2 => ?_)
      refine r_callV (rest := [.int x1]) (st2 := [.int a2, .int x1]) C (mX5_its (eL E) C.z _ _ σ x2 2 a2 ha2) lk_X5_83 (rvM C) (by decide) rfl rfl (Nat.le_of_ble_eq_true rfl) dX5_allBooks_18 rfl ?_
      refine r_bind (fun a3 ha3 => ?_)
      refine r_callS (rest := [.int x1]) (st2 := [.int a3, .int x1]) C (mX5_ones (eL E) C.z _ _ a2 a3 ha3) lk_X5_145 (by decide) rfl rfl (Nat.le_of_ble_eq_true rfl) dX5_allBooks_21 rfl ?_
      refine r_iadd C dX5_allBooks_24 ?_
      refine r_istore_n (lv' := [(1, .int (x1 + a3)), (0, .ref (zA Z 6 0)), (2, .int x2)]) C dX5_allBooks_25 1 rfl (by decide) rfl ?_
      refine r_iinc (v := (x2 + 1)) (lv' := [(2, .int (x2 + 1)), (1, .int (x1 + a3)), (0, .ref (zA Z 6 0))]) C dX5_allBooks_26 2 rfl rfl (by decide) rfl ?_
      refine r_goto (tgt := 4) C dX5_allBooks_29 (by decide) ?_
      refine r_lv [2, 1, 0] (lv' := [(0, .ref (zA Z 6 0)), (1, .int (x1 + a3)), (2, .int (x2 + 1))]) rfl ?_
      exact ih (x1 + a3) (x2 + 1)
noncomputable def fX5_allBooks (σ : Nat → Int32)   : Option (Int32) := (fX5_allBooks_4 σ fu 0 0)
theorem bX5_allBooks {Z : Zt} {E : Ec} {M0 : Mi} {σ : Nat → Int32} {N : Ml} (C : Ok 2 Z E cX5_allBooks 3 RX5 (some .int) 2)      : GT Z E 3 (finX5_allBooks M0 σ N) 0 [(0, .ref (zA Z 6 0))] [] (sR M0 0 σ) N (fX5_allBooks σ ) := by
  unfold fX5_allBooks
  refine r_iconst (v := 0) C dX5_allBooks_0 (by decide) ?_
  refine r_istore_n (lv' := [(1, .int 0), (0, .ref (zA Z 6 0))]) C dX5_allBooks_1 1 rfl (by decide) rfl ?_
  refine r_iconst (v := 0) C dX5_allBooks_2 (by decide) ?_
  refine r_istore_n (lv' := [(2, .int 0), (1, .int 0), (0, .ref (zA Z 6 0))]) C dX5_allBooks_3 2 rfl (by decide) rfl ?_
  refine r_lv [2, 1, 0] (lv' := [(0, .ref (zA Z 6 0)), (1, .int 0), (2, .int 0)]) rfl ?_
  exact bX5_allBooks_4 C fu 0 0
theorem mX5_allBooks (l : Launch) {Z : Zt} (hZ : Zok 2 Z) (M0 : Mi) (N : Ml) (σ : Nat → Int32) (b : Int32) (hb : fX5_allBooks σ = some b) : Ct 2 Z l yX5_allBooks cX5_allBooks 3 (some .int) 2 [.ref (zA Z 6 0)] (sR M0 0 σ) N (some (Value.int b), sR M0 0 σ, N) :=
  metG (fin := (finX5_allBooks M0 σ N)) (by decide) (Nat.le_of_ble_eq_true rfl) (fun E _ C => bX5_allBooks C) hb
theorem dX5_hours_0 : decode cX5_hours 0 = .ok (.iload_n 1, 1) := by decide +kernel
theorem dX5_hours_1 : decode cX5_hours 1 = .ok (.i2l, 1) := by decide +kernel
theorem dX5_hours_2 : decode cX5_hours 2 = .ok (.lconst 1, 1) := by decide +kernel
theorem dX5_hours_3 : decode cX5_hours 3 = .ok (.ldc2_w 158, 3) := by decide +kernel
theorem dX5_hours_6 : decode cX5_hours 6 = .ok (.invokestatic 44, 3) := by decide +kernel
theorem dX5_hours_9 : decode cX5_hours 9 = .ok (.ifCond .ne 10, 3) := by decide +kernel
theorem dX5_hours_12 : decode cX5_hours 12 = .ok (.aload_n 0, 1) := by decide +kernel
theorem dX5_hours_13 : decode cX5_hours 13 = .ok (.ldc 41, 2) := by decide +kernel
theorem dX5_hours_15 : decode cX5_hours 15 = .ok (.invokevirtual 65, 3) := by decide +kernel
theorem dX5_hours_18 : decode cX5_hours 18 = .ok (.ireturn, 1) := by decide +kernel
theorem dX5_hours_19 : decode cX5_hours 19 = .ok (.aload_n 0, 1) := by decide +kernel
theorem dX5_hours_20 : decode cX5_hours 20 = .ok (.getfield 7, 3) := by decide +kernel
theorem dX5_hours_23 : decode cX5_hours 23 = .ok (.iconst 0, 1) := by decide +kernel
theorem dX5_hours_24 : decode cX5_hours 24 = .ok (.iaload, 1) := by decide +kernel
theorem dX5_hours_25 : decode cX5_hours 25 = .ok (.iload_n 1, 1) := by decide +kernel
theorem dX5_hours_26 : decode cX5_hours 26 = .ok (.iadd, 1) := by decide +kernel
theorem dX5_hours_27 : decode cX5_hours 27 = .ok (.sipush 9999, 3) := by decide +kernel
theorem dX5_hours_30 : decode cX5_hours 30 = .ok (.if_icmp .le 10, 3) := by decide +kernel
theorem dX5_hours_33 : decode cX5_hours 33 = .ok (.aload_n 0, 1) := by decide +kernel
theorem dX5_hours_34 : decode cX5_hours 34 = .ok (.ldc 136, 2) := by decide +kernel
theorem dX5_hours_36 : decode cX5_hours 36 = .ok (.invokevirtual 65, 3) := by decide +kernel
theorem dX5_hours_39 : decode cX5_hours 39 = .ok (.ireturn, 1) := by decide +kernel
theorem dX5_hours_40 : decode cX5_hours 40 = .ok (.aload_n 0, 1) := by decide +kernel
theorem dX5_hours_41 : decode cX5_hours 41 = .ok (.iload_n 1, 1) := by decide +kernel
theorem dX5_hours_42 : decode cX5_hours 42 = .ok (.invokevirtual 160, 3) := by decide +kernel
theorem dX5_hours_45 : decode cX5_hours 45 = .ok (.aload_n 0, 1) := by decide +kernel
theorem dX5_hours_46 : decode cX5_hours 46 = .ok (.invokevirtual 163, 3) := by decide +kernel
theorem dX5_hours_49 : decode cX5_hours 49 = .ok (.ireturn, 1) := by decide +kernel
def finX5_hours (N : Ml) : Int32 × Mi → Option Value × Mi × Ml := fun b => (some (Value.int b.1), b.2, N)
noncomputable def fX5_hours   (M : Mi) (x1 : Int32) : Option (Int32 × Mi) := (if (fX5_in (Int32.toInt64 x1) 1 72) = 0 then (Option.bind (fX5_finds M (-1000000001)) (fun a6 => (some (a6.1, (a6.2))))) else (if ((M 0 0) + x1) ≤ 9999 then (Option.bind (fX5_go (M 0) x1) (fun a3 => (Option.bind (fX5_allBooks a3) (fun a4 => (some (a4, (sR M 0 a3))))))) else (Option.bind (fX5_finds M (-1000000005)) (fun a5 => (some (a5.1, (a5.2)))))))
theorem bX5_hours {Z : Zt} {E : Ec} {N : Ml} (C : Ok 2 Z E cX5_hours 2 RX5 (some .int) 6)    (M : Mi) (x1 : Int32)  : GT Z E 2 (finX5_hours N) 0 [(0, .ref (zA Z 6 0)), (1, .int x1)] [] M N (fX5_hours M x1) := by
  unfold fX5_hours
  refine r_iload_n C dX5_hours_0 1 1 rfl rfl ?_
  refine r_i2l C dX5_hours_1 ?_
  refine r_lconst (v := 1) C dX5_hours_2 (by decide) ?_
  refine r_ldc2 (v := 72) C dX5_hours_3 wd_990 ?_
  refine r_callS (rest := []) (st2 := [.int (fX5_in (Int32.toInt64 x1) 1 72)]) C (mX5_in (eL E) C.z _ _ (Int32.toInt64 x1) 1 72) lk_X5_44 (by decide) rfl rfl (Nat.le_of_ble_eq_true rfl) dX5_hours_6 rfl ?_
  refine r_if_ne (tgt := 19) C dX5_hours_9 (by decide) (fun c1 => ?_) (fun c1 => ?_)
  · refine r_aload_n C dX5_hours_19 0 0 rfl rfl ?_
    refine gf_X5_7 C dX5_hours_20 ?_
    refine r_iconst (v := 0) C dX5_hours_23 (by decide) ?_
    refine ald_M (v := (M 0 0)) C mI_0 (by decide) rfl dX5_hours_24 ?_
    refine r_iload_n C dX5_hours_25 1 1 rfl rfl ?_
    refine r_iadd C dX5_hours_26 ?_
    refine r_sipush (v := 9999) C dX5_hours_27 (by decide) ?_
    refine r_ic_le (tgt := 40) C dX5_hours_30 (by decide) (fun c2 => ?_) (fun c2 => ?_)
    · refine r_aload_n C dX5_hours_40 0 0 rfl rfl ?_
      refine r_iload_n C dX5_hours_41 1 1 rfl rfl ?_
      refine r_bind (fun a3 ha3 => ?_)
      refine r_callV (rest := []) (st2 := []) C (mX5_go (eL E) C.z M _ (M 0) x1 a3 ha3).selfW lk_X5_160 (rvM C) (by decide) rfl rfl (Nat.le_of_ble_eq_true rfl) dX5_hours_42 rfl ?_
      refine r_aload_n C dX5_hours_45 0 0 rfl rfl ?_
      refine r_bind (fun a4 ha4 => ?_)
      refine r_callV (rest := []) (st2 := [.int a4]) C (mX5_allBooks (eL E) C.z M _ a3 a4 ha4) lk_X5_163 (rvM C) (by decide) rfl rfl (Nat.le_of_ble_eq_true rfl) dX5_hours_46 rfl ?_
      exact r_iret C dX5_hours_49 rfl
    · refine r_aload_n C dX5_hours_33 0 0 rfl rfl ?_
      refine r_ldc (v := (-1000000005)) C dX5_hours_34 wd_980 ?_
      refine r_bind (fun a5 ha5 => ?_)
      refine r_callV (rest := []) (st2 := [.int a5.1]) C (mX5_finds (eL E) C.z M N (-1000000005) a5 ha5) lk_X5_65 (rvM C) (by decide) rfl rfl (Nat.le_of_ble_eq_true rfl) dX5_hours_36 rfl ?_
      exact r_iret C dX5_hours_39 rfl
  · refine r_aload_n C dX5_hours_12 0 0 rfl rfl ?_
    refine r_ldc (v := (-1000000001)) C dX5_hours_13 wd_859 ?_
    refine r_bind (fun a6 ha6 => ?_)
    refine r_callV (rest := []) (st2 := [.int a6.1]) C (mX5_finds (eL E) C.z M N (-1000000001) a6 ha6) lk_X5_65 (rvM C) (by decide) rfl rfl (Nat.le_of_ble_eq_true rfl) dX5_hours_15 rfl ?_
    exact r_iret C dX5_hours_18 rfl
theorem mX5_hours (l : Launch) {Z : Zt} (hZ : Zok 2 Z) (M : Mi) (N : Ml) (x1 : Int32) (b : Int32 × Mi) (hb : fX5_hours M x1 = some b) : Ct 2 Z l yX5_hours cX5_hours 2 (some .int) 6 [.ref (zA Z 6 0), .int x1] M N (some (Value.int b.1), b.2, N) :=
  metG (fin := (finX5_hours N)) (by decide) (Nat.le_of_ble_eq_true rfl) (fun E _ C => bX5_hours C M x1) hb
theorem dX5_allSubjects_0 : decode cX5_allSubjects 0 = .ok (.iconst 0, 1) := by decide +kernel
theorem dX5_allSubjects_1 : decode cX5_allSubjects 1 = .ok (.istore_n 1, 1) := by decide +kernel
theorem dX5_allSubjects_2 : decode cX5_allSubjects 2 = .ok (.iconst 0, 1) := by decide +kernel
theorem dX5_allSubjects_3 : decode cX5_allSubjects 3 = .ok (.istore_n 2, 1) := by decide +kernel
theorem dX5_allSubjects_4 : decode cX5_allSubjects 4 = .ok (.iload_n 2, 1) := by decide +kernel
theorem dX5_allSubjects_5 : decode cX5_allSubjects 5 = .ok (.aload_n 0, 1) := by decide +kernel
theorem dX5_allSubjects_6 : decode cX5_allSubjects 6 = .ok (.getfield 7, 3) := by decide +kernel
theorem dX5_allSubjects_9 : decode cX5_allSubjects 9 = .ok (.iconst 1, 1) := by decide +kernel
theorem dX5_allSubjects_10 : decode cX5_allSubjects 10 = .ok (.iaload, 1) := by decide +kernel
theorem dX5_allSubjects_11 : decode cX5_allSubjects 11 = .ok (.if_icmp .ge 18, 3) := by decide +kernel
theorem dX5_allSubjects_14 : decode cX5_allSubjects 14 = .ok (.iload_n 1, 1) := by decide +kernel
theorem dX5_allSubjects_15 : decode cX5_allSubjects 15 = .ok (.aload_n 0, 1) := by decide +kernel
theorem dX5_allSubjects_16 : decode cX5_allSubjects 16 = .ok (.iload_n 2, 1) := by decide +kernel
theorem dX5_allSubjects_17 : decode cX5_allSubjects 17 = .ok (.iconst 2, 1) := by decide +kernel
theorem dX5_allSubjects_18 : decode cX5_allSubjects 18 = .ok (.invokevirtual 83, 3) := by decide +kernel
theorem dX5_allSubjects_21 : decode cX5_allSubjects 21 = .ok (.ior, 1) := by decide +kernel
theorem dX5_allSubjects_22 : decode cX5_allSubjects 22 = .ok (.istore_n 1, 1) := by decide +kernel
theorem dX5_allSubjects_23 : decode cX5_allSubjects 23 = .ok (.iinc 2 1, 3) := by decide +kernel
theorem dX5_allSubjects_26 : decode cX5_allSubjects 26 = .ok (.goto (-22), 3) := by decide +kernel
theorem dX5_allSubjects_29 : decode cX5_allSubjects 29 = .ok (.iload_n 1, 1) := by decide +kernel
theorem dX5_allSubjects_30 : decode cX5_allSubjects 30 = .ok (.ireturn, 1) := by decide +kernel
def finX5_allSubjects (M0 : Mi) (σ : Nat → Int32) (N : Ml) : Int32 → Option Value × Mi × Ml := fun b => (some (Value.int b), sR M0 0 σ, N)
noncomputable def fX5_allSubjects_4 (σ : Nat → Int32)  : Nat → Int32 → Int32 → Option (Int32)
  | 0 => fun _ _ => none
  | n + 1 => fun x1 x2 => (if (σ 1) ≤ x2 then (some x1) else (Option.bind (fX5_its σ x2 2) (fun a2 => ((fX5_allSubjects_4 σ n) (x1 ||| a2) (x2 + 1)))))
theorem bX5_allSubjects_4 {Z : Zt} {E : Ec} {M0 : Mi} {σ : Nat → Int32} {N : Ml} (C : Ok 2 Z E cX5_allSubjects 3 RX5 (some .int) 2)    : ∀ (n : Nat) (x1 : Int32) (x2 : Int32), GT Z E 3 (finX5_allSubjects M0 σ N) 4 [(0, .ref (zA Z 6 0)), (1, .int x1), (2, .int x2)] [] (sR M0 0 σ) N (fX5_allSubjects_4 σ n x1 x2) := by
  intro n
  induction n with
  | zero => intro x1 x2; exact r_none
  | succ n ih =>
    intro x1 x2
    rw [fX5_allSubjects_4]
    refine r_iload_n C dX5_allSubjects_4 2 2 rfl rfl ?_
    refine r_aload_n C dX5_allSubjects_5 0 0 rfl rfl ?_
    refine gf_X5_7 C dX5_allSubjects_6 ?_
    refine r_iconst (v := 1) C dX5_allSubjects_9 (by decide) ?_
    refine ald_M (v := (σ 1)) C mI_0 (by decide) (sR_at _ _ _ _) dX5_allSubjects_10 ?_
    refine r_ic_ge (tgt := 29) C dX5_allSubjects_11 (by decide) (fun c1 => ?_) (fun c1 => ?_)
    · refine r_iload_n C dX5_allSubjects_29 1 1 rfl rfl ?_
      exact r_iret C dX5_allSubjects_30 rfl
    · refine r_iload_n C dX5_allSubjects_14 1 1 rfl rfl ?_
      refine r_aload_n C dX5_allSubjects_15 0 0 rfl rfl ?_
      refine r_iload_n C dX5_allSubjects_16 2 2 rfl rfl ?_
      refine r_iconst (v := 2) C dX5_allSubjects_17 (by decide) ?_
      refine r_bind (fun a2 ha2 => ?_)
      refine r_callV (rest := [.int x1]) (st2 := [.int a2, .int x1]) C (mX5_its (eL E) C.z _ _ σ x2 2 a2 ha2) lk_X5_83 (rvM C) (by decide) rfl rfl (Nat.le_of_ble_eq_true rfl) dX5_allSubjects_18 rfl ?_
      refine r_ior C dX5_allSubjects_21 ?_
      refine r_istore_n (lv' := [(1, .int (x1 ||| a2)), (0, .ref (zA Z 6 0)), (2, .int x2)]) C dX5_allSubjects_22 1 rfl (by decide) rfl ?_
      refine r_iinc (v := (x2 + 1)) (lv' := [(2, .int (x2 + 1)), (1, .int (x1 ||| a2)), (0, .ref (zA Z 6 0))]) C dX5_allSubjects_23 2 rfl rfl (by decide) rfl ?_
      refine r_goto (tgt := 4) C dX5_allSubjects_26 (by decide) ?_
      refine r_lv [2, 1, 0] (lv' := [(0, .ref (zA Z 6 0)), (1, .int (x1 ||| a2)), (2, .int (x2 + 1))]) rfl ?_
      exact ih (x1 ||| a2) (x2 + 1)
noncomputable def fX5_allSubjects (σ : Nat → Int32)   : Option (Int32) := (fX5_allSubjects_4 σ fu 0 0)
theorem bX5_allSubjects {Z : Zt} {E : Ec} {M0 : Mi} {σ : Nat → Int32} {N : Ml} (C : Ok 2 Z E cX5_allSubjects 3 RX5 (some .int) 2)      : GT Z E 3 (finX5_allSubjects M0 σ N) 0 [(0, .ref (zA Z 6 0))] [] (sR M0 0 σ) N (fX5_allSubjects σ ) := by
  unfold fX5_allSubjects
  refine r_iconst (v := 0) C dX5_allSubjects_0 (by decide) ?_
  refine r_istore_n (lv' := [(1, .int 0), (0, .ref (zA Z 6 0))]) C dX5_allSubjects_1 1 rfl (by decide) rfl ?_
  refine r_iconst (v := 0) C dX5_allSubjects_2 (by decide) ?_
  refine r_istore_n (lv' := [(2, .int 0), (1, .int 0), (0, .ref (zA Z 6 0))]) C dX5_allSubjects_3 2 rfl (by decide) rfl ?_
  refine r_lv [2, 1, 0] (lv' := [(0, .ref (zA Z 6 0)), (1, .int 0), (2, .int 0)]) rfl ?_
  exact bX5_allSubjects_4 C fu 0 0
theorem mX5_allSubjects (l : Launch) {Z : Zt} (hZ : Zok 2 Z) (M0 : Mi) (N : Ml) (σ : Nat → Int32) (b : Int32) (hb : fX5_allSubjects σ = some b) : Ct 2 Z l yX5_allSubjects cX5_allSubjects 3 (some .int) 2 [.ref (zA Z 6 0)] (sR M0 0 σ) N (some (Value.int b), sR M0 0 σ, N) :=
  metG (fin := (finX5_allSubjects M0 σ N)) (by decide) (Nat.le_of_ble_eq_true rfl) (fun E _ C => bX5_allSubjects C) hb
theorem dX5_allCells_0 : decode cX5_allCells 0 = .ok (.iconst 0, 1) := by decide +kernel
theorem dX5_allCells_1 : decode cX5_allCells 1 = .ok (.istore_n 1, 1) := by decide +kernel
theorem dX5_allCells_2 : decode cX5_allCells 2 = .ok (.iconst 0, 1) := by decide +kernel
theorem dX5_allCells_3 : decode cX5_allCells 3 = .ok (.istore_n 2, 1) := by decide +kernel
theorem dX5_allCells_4 : decode cX5_allCells 4 = .ok (.iload_n 2, 1) := by decide +kernel
theorem dX5_allCells_5 : decode cX5_allCells 5 = .ok (.aload_n 0, 1) := by decide +kernel
theorem dX5_allCells_6 : decode cX5_allCells 6 = .ok (.getfield 7, 3) := by decide +kernel
theorem dX5_allCells_9 : decode cX5_allCells 9 = .ok (.iconst 1, 1) := by decide +kernel
theorem dX5_allCells_10 : decode cX5_allCells 10 = .ok (.iaload, 1) := by decide +kernel
theorem dX5_allCells_11 : decode cX5_allCells 11 = .ok (.if_icmp .ge 20, 3) := by decide +kernel
theorem dX5_allCells_14 : decode cX5_allCells 14 = .ok (.iload_n 1, 1) := by decide +kernel
theorem dX5_allCells_15 : decode cX5_allCells 15 = .ok (.iconst 1, 1) := by decide +kernel
theorem dX5_allCells_16 : decode cX5_allCells 16 = .ok (.aload_n 0, 1) := by decide +kernel
theorem dX5_allCells_17 : decode cX5_allCells 17 = .ok (.iload_n 2, 1) := by decide +kernel
theorem dX5_allCells_18 : decode cX5_allCells 18 = .ok (.iconst 1, 1) := by decide +kernel
theorem dX5_allCells_19 : decode cX5_allCells 19 = .ok (.invokevirtual 83, 3) := by decide +kernel
theorem dX5_allCells_22 : decode cX5_allCells 22 = .ok (.ishl, 1) := by decide +kernel
theorem dX5_allCells_23 : decode cX5_allCells 23 = .ok (.ior, 1) := by decide +kernel
theorem dX5_allCells_24 : decode cX5_allCells 24 = .ok (.istore_n 1, 1) := by decide +kernel
theorem dX5_allCells_25 : decode cX5_allCells 25 = .ok (.iinc 2 1, 3) := by decide +kernel
theorem dX5_allCells_28 : decode cX5_allCells 28 = .ok (.goto (-24), 3) := by decide +kernel
theorem dX5_allCells_31 : decode cX5_allCells 31 = .ok (.iload_n 1, 1) := by decide +kernel
theorem dX5_allCells_32 : decode cX5_allCells 32 = .ok (.ireturn, 1) := by decide +kernel
def finX5_allCells (M0 : Mi) (σ : Nat → Int32) (N : Ml) : Int32 → Option Value × Mi × Ml := fun b => (some (Value.int b), sR M0 0 σ, N)
noncomputable def fX5_allCells_4 (σ : Nat → Int32)  : Nat → Int32 → Int32 → Option (Int32)
  | 0 => fun _ _ => none
  | n + 1 => fun x1 x2 => (if (σ 1) ≤ x2 then (some x1) else (Option.bind (fX5_its σ x2 1) (fun a2 => ((fX5_allCells_4 σ n) (x1 ||| (1 <<< (a2 &&& 31))) (x2 + 1)))))
theorem bX5_allCells_4 {Z : Zt} {E : Ec} {M0 : Mi} {σ : Nat → Int32} {N : Ml} (C : Ok 2 Z E cX5_allCells 3 RX5 (some .int) 2)    : ∀ (n : Nat) (x1 : Int32) (x2 : Int32), GT Z E 3 (finX5_allCells M0 σ N) 4 [(0, .ref (zA Z 6 0)), (1, .int x1), (2, .int x2)] [] (sR M0 0 σ) N (fX5_allCells_4 σ n x1 x2) := by
  intro n
  induction n with
  | zero => intro x1 x2; exact r_none
  | succ n ih =>
    intro x1 x2
    rw [fX5_allCells_4]
    refine r_iload_n C dX5_allCells_4 2 2 rfl rfl ?_
    refine r_aload_n C dX5_allCells_5 0 0 rfl rfl ?_
    refine gf_X5_7 C dX5_allCells_6 ?_
    refine r_iconst (v := 1) C dX5_allCells_9 (by decide) ?_
    refine ald_M (v := (σ 1)) C mI_0 (by decide) (sR_at _ _ _ _) dX5_allCells_10 ?_
    refine r_ic_ge (tgt := 31) C dX5_allCells_11 (by decide) (fun c1 => ?_) (fun c1 => ?_)
    · refine r_iload_n C dX5_allCells_31 1 1 rfl rfl ?_
      exact r_iret C dX5_allCells_32 rfl
    · refine r_iload_n C dX5_allCells_14 1 1 rfl rfl ?_
      refine r_iconst (v := 1) C dX5_allCells_15 (by decide) ?_
      refine r_aload_n C dX5_allCells_16 0 0 rfl rfl ?_
      refine r_iload_n C dX5_allCells_17 2 2 rfl rfl ?_
      refine r_iconst (v := 1) C dX5_allCells_18 (by decide) ?_
      refine r_bind (fun a2 ha2 => ?_)
      refine r_callV (rest := [.int 1, .int x1]) (st2 := [.int a2, .int 1, .int x1]) C (mX5_its (eL E) C.z _ _ σ x2 1 a2 ha2) lk_X5_83 (rvM C) (by decide) rfl rfl (Nat.le_of_ble_eq_true rfl) dX5_allCells_19 rfl ?_
      refine r_ishl C dX5_allCells_22 ?_
      refine r_ior C dX5_allCells_23 ?_
      refine r_istore_n (lv' := [(1, .int (x1 ||| (1 <<< (a2 &&& 31)))), (0, .ref (zA Z 6 0)), (2, .int x2)]) C dX5_allCells_24 1 rfl (by decide) rfl ?_
      refine r_iinc (v := (x2 + 1)) (lv' := [(2, .int (x2 + 1)), (1, .int (x1 ||| (1 <<< (a2 &&& 31)))), (0, .ref (zA Z 6 0))]) C dX5_allCells_25 2 rfl rfl (by decide) rfl ?_
      refine r_goto (tgt := 4) C dX5_allCells_28 (by decide) ?_
      refine r_lv [2, 1, 0] (lv' := [(0, .ref (zA Z 6 0)), (1, .int (x1 ||| (1 <<< (a2 &&& 31)))), (2, .int (x2 + 1))]) rfl ?_
      exact ih (x1 ||| (1 <<< (a2 &&& 31))) (x2 + 1)
noncomputable def fX5_allCells (σ : Nat → Int32)   : Option (Int32) := (fX5_allCells_4 σ fu 0 0)
theorem bX5_allCells {Z : Zt} {E : Ec} {M0 : Mi} {σ : Nat → Int32} {N : Ml} (C : Ok 2 Z E cX5_allCells 3 RX5 (some .int) 2)      : GT Z E 3 (finX5_allCells M0 σ N) 0 [(0, .ref (zA Z 6 0))] [] (sR M0 0 σ) N (fX5_allCells σ ) := by
  unfold fX5_allCells
  refine r_iconst (v := 0) C dX5_allCells_0 (by decide) ?_
  refine r_istore_n (lv' := [(1, .int 0), (0, .ref (zA Z 6 0))]) C dX5_allCells_1 1 rfl (by decide) rfl ?_
  refine r_iconst (v := 0) C dX5_allCells_2 (by decide) ?_
  refine r_istore_n (lv' := [(2, .int 0), (1, .int 0), (0, .ref (zA Z 6 0))]) C dX5_allCells_3 2 rfl (by decide) rfl ?_
  refine r_lv [2, 1, 0] (lv' := [(0, .ref (zA Z 6 0)), (1, .int 0), (2, .int 0)]) rfl ?_
  exact bX5_allCells_4 C fu 0 0
theorem mX5_allCells (l : Launch) {Z : Zt} (hZ : Zok 2 Z) (M0 : Mi) (N : Ml) (σ : Nat → Int32) (b : Int32) (hb : fX5_allCells σ = some b) : Ct 2 Z l yX5_allCells cX5_allCells 3 (some .int) 2 [.ref (zA Z 6 0)] (sR M0 0 σ) N (some (Value.int b), sR M0 0 σ, N) :=
  metG (fin := (finX5_allCells M0 σ N)) (by decide) (Nat.le_of_ble_eq_true rfl) (fun E _ C => bX5_allCells C) hb
theorem dX5_now_0 : decode cX5_now 0 = .ok (.iload_n 1, 1) := by decide +kernel
theorem dX5_now_1 : decode cX5_now 1 = .ok (.tableswitch 79 0 5 #[39, 46, 51, 64, 69, 74], 39) := by decide +kernel
theorem dX5_now_40 : decode cX5_now 40 = .ok (.aload_n 0, 1) := by decide +kernel
theorem dX5_now_41 : decode cX5_now 41 = .ok (.getfield 7, 3) := by decide +kernel
theorem dX5_now_44 : decode cX5_now 44 = .ok (.iconst 0, 1) := by decide +kernel
theorem dX5_now_45 : decode cX5_now 45 = .ok (.iaload, 1) := by decide +kernel
theorem dX5_now_46 : decode cX5_now 46 = .ok (.ireturn, 1) := by decide +kernel
theorem dX5_now_47 : decode cX5_now 47 = .ok (.aload_n 0, 1) := by decide +kernel
theorem dX5_now_48 : decode cX5_now 48 = .ok (.invokevirtual 92, 3) := by decide +kernel
theorem dX5_now_51 : decode cX5_now 51 = .ok (.ireturn, 1) := by decide +kernel
theorem dX5_now_52 : decode cX5_now 52 = .ok (.aload_n 0, 1) := by decide +kernel
theorem dX5_now_53 : decode cX5_now 53 = .ok (.invokevirtual 103, 3) := by decide +kernel
theorem dX5_now_56 : decode cX5_now 56 = .ok (.ifCond .eq 7, 3) := by decide +kernel
theorem dX5_now_59 : decode cX5_now 59 = .ok (.iconst 1, 1) := by decide +kernel
theorem dX5_now_60 : decode cX5_now 60 = .ok (.goto 4, 3) := by decide +kernel
theorem dX5_now_63 : decode cX5_now 63 = .ok (.iconst 0, 1) := by decide +kernel
theorem dX5_now_64 : decode cX5_now 64 = .ok (.ireturn, 1) := by decide +kernel
theorem dX5_now_65 : decode cX5_now 65 = .ok (.aload_n 0, 1) := by decide +kernel
theorem dX5_now_66 : decode cX5_now 66 = .ok (.invokevirtual 163, 3) := by decide +kernel
theorem dX5_now_69 : decode cX5_now 69 = .ok (.ireturn, 1) := by decide +kernel
theorem dX5_now_70 : decode cX5_now 70 = .ok (.aload_n 0, 1) := by decide +kernel
theorem dX5_now_71 : decode cX5_now 71 = .ok (.invokevirtual 166, 3) := by decide +kernel
theorem dX5_now_74 : decode cX5_now 74 = .ok (.ireturn, 1) := by decide +kernel
theorem dX5_now_75 : decode cX5_now 75 = .ok (.aload_n 0, 1) := by decide +kernel
theorem dX5_now_76 : decode cX5_now 76 = .ok (.invokevirtual 169, 3) := by decide +kernel
theorem dX5_now_79 : decode cX5_now 79 = .ok (.ireturn, 1) := by decide +kernel
theorem dX5_now_80 : decode cX5_now 80 = .ok (.aload_n 0, 1) := by decide +kernel
theorem dX5_now_81 : decode cX5_now 81 = .ok (.ldc 41, 2) := by decide +kernel
theorem dX5_now_83 : decode cX5_now 83 = .ok (.invokevirtual 65, 3) := by decide +kernel
theorem dX5_now_86 : decode cX5_now 86 = .ok (.ireturn, 1) := by decide +kernel
def finX5_now (N : Ml) : Int32 × Mi → Option Value × Mi × Ml := fun b => (some (Value.int b.1), b.2, N)
noncomputable def fX5_now   (M : Mi) (x1 : Int32) : Option (Int32 × Mi) := (if x1 = 0 then (some ((M 0 0), M)) else (if x1 = 1 then (some ((fX5_clock (M 0)), M)) else (if x1 = 2 then (if (fX5_rains (M 0)) = 0 then (some (0, M)) else (some (1, M))) else (if x1 = 3 then (Option.bind (fX5_allBooks (M 0)) (fun a6 => (some (a6, M)))) else (if x1 = 4 then (Option.bind (fX5_allSubjects (M 0)) (fun a8 => (some (a8, M)))) else (if x1 = 5 then (Option.bind (fX5_allCells (M 0)) (fun a10 => (some (a10, M)))) else (Option.bind (fX5_finds M (-1000000001)) (fun a11 => (some (a11.1, (a11.2)))))))))))
theorem bX5_now {Z : Zt} {E : Ec} {N : Ml} (C : Ok 2 Z E cX5_now 2 RX5 (some .int) 3)    (M : Mi) (x1 : Int32)  : GT Z E 2 (finX5_now N) 0 [(0, .ref (zA Z 6 0)), (1, .int x1)] [] M N (fX5_now M x1) := by
  unfold fX5_now
  refine r_iload_n C dX5_now_0 1 1 rfl rfl ?_
  refine r_tsw (k := 0) (tgt := 40) C dX5_now_1 (by decide) (by decide) rfl (by decide) (fun c1 => ?_) (fun c1 => ?_)
  · refine r_aload_n C dX5_now_40 0 0 rfl rfl ?_
    refine gf_X5_7 C dX5_now_41 ?_
    refine r_iconst (v := 0) C dX5_now_44 (by decide) ?_
    refine ald_M (v := (M 0 0)) C mI_0 (by decide) rfl dX5_now_45 ?_
    exact r_iret C dX5_now_46 rfl
  · skip
    refine r_tsw (k := 1) (tgt := 47) C dX5_now_1 (by decide) (by decide) rfl (by decide) (fun c2 => ?_) (fun c2 => ?_)
    · refine r_aload_n C dX5_now_47 0 0 rfl rfl ?_
      refine r_callV (rest := []) (st2 := [.int (fX5_clock (M 0))]) C (mX5_clock (eL E) C.z M _ (M 0)).selfR lk_X5_92 (rvM C) (by decide) rfl rfl (Nat.le_of_ble_eq_true rfl) dX5_now_48 rfl ?_
      exact r_iret C dX5_now_51 rfl
    · skip
      refine r_tsw (k := 2) (tgt := 52) C dX5_now_1 (by decide) (by decide) rfl (by decide) (fun c3 => ?_) (fun c3 => ?_)
      · refine r_aload_n C dX5_now_52 0 0 rfl rfl ?_
        refine r_callV (rest := []) (st2 := [.int (fX5_rains (M 0))]) C (mX5_rains (eL E) C.z M _ (M 0)).selfR lk_X5_103 (rvM C) (by decide) rfl rfl (Nat.le_of_ble_eq_true rfl) dX5_now_53 rfl ?_
        refine r_if_eq (tgt := 63) C dX5_now_56 (by decide) (fun c4 => ?_) (fun c4 => ?_)
        · refine r_iconst (v := 0) C dX5_now_63 (by decide) ?_
          exact r_iret C dX5_now_64 rfl
        · refine r_iconst (v := 1) C dX5_now_59 (by decide) ?_
          refine r_goto (tgt := 64) C dX5_now_60 (by decide) ?_
          exact r_iret C dX5_now_64 rfl
      · skip
        refine r_tsw (k := 3) (tgt := 65) C dX5_now_1 (by decide) (by decide) rfl (by decide) (fun c5 => ?_) (fun c5 => ?_)
        · refine r_aload_n C dX5_now_65 0 0 rfl rfl ?_
          refine r_bind (fun a6 ha6 => ?_)
          refine r_callV (rest := []) (st2 := [.int a6]) C (mX5_allBooks (eL E) C.z M _ (M 0) a6 ha6).selfR lk_X5_163 (rvM C) (by decide) rfl rfl (Nat.le_of_ble_eq_true rfl) dX5_now_66 rfl ?_
          exact r_iret C dX5_now_69 rfl
        · skip
          refine r_tsw (k := 4) (tgt := 70) C dX5_now_1 (by decide) (by decide) rfl (by decide) (fun c7 => ?_) (fun c7 => ?_)
          · refine r_aload_n C dX5_now_70 0 0 rfl rfl ?_
            refine r_bind (fun a8 ha8 => ?_)
            refine r_callV (rest := []) (st2 := [.int a8]) C (mX5_allSubjects (eL E) C.z M _ (M 0) a8 ha8).selfR lk_X5_166 (rvM C) (by decide) rfl rfl (Nat.le_of_ble_eq_true rfl) dX5_now_71 rfl ?_
            exact r_iret C dX5_now_74 rfl
          · skip
            refine r_tsw (k := 5) (tgt := 75) C dX5_now_1 (by decide) (by decide) rfl (by decide) (fun c9 => ?_) (fun c9 => ?_)
            · refine r_aload_n C dX5_now_75 0 0 rfl rfl ?_
              refine r_bind (fun a10 ha10 => ?_)
              refine r_callV (rest := []) (st2 := [.int a10]) C (mX5_allCells (eL E) C.z M _ (M 0) a10 ha10).selfR lk_X5_169 (rvM C) (by decide) rfl rfl (Nat.le_of_ble_eq_true rfl) dX5_now_76 rfl ?_
              exact r_iret C dX5_now_79 rfl
            · skip
              refine r_tswd (tgt := 80) C dX5_now_1 (sw_out (lo := 0) (hi := 5) (n := 6) x1 [0, 1, 2, 3, 4, 5] (by decide) rfl (List.forall_mem_cons.mpr ⟨c1, List.forall_mem_cons.mpr ⟨c2, List.forall_mem_cons.mpr ⟨c3, List.forall_mem_cons.mpr ⟨c5, List.forall_mem_cons.mpr ⟨c7, List.forall_mem_cons.mpr ⟨c9, fun _ h => absurd h List.not_mem_nil⟩⟩⟩⟩⟩⟩)) (by decide) ?_
              refine r_aload_n C dX5_now_80 0 0 rfl rfl ?_
              refine r_ldc (v := (-1000000001)) C dX5_now_81 wd_859 ?_
              refine r_bind (fun a11 ha11 => ?_)
              refine r_callV (rest := []) (st2 := [.int a11.1]) C (mX5_finds (eL E) C.z M N (-1000000001) a11 ha11) lk_X5_65 (rvM C) (by decide) rfl rfl (Nat.le_of_ble_eq_true rfl) dX5_now_83 rfl ?_
              exact r_iret C dX5_now_86 rfl
theorem mX5_now (l : Launch) {Z : Zt} (hZ : Zok 2 Z) (M : Mi) (N : Ml) (x1 : Int32) (b : Int32 × Mi) (hb : fX5_now M x1 = some b) : Ct 2 Z l yX5_now cX5_now 2 (some .int) 3 [.ref (zA Z 6 0), .int x1] M N (some (Value.int b.1), b.2, N) :=
  metG (fin := (finX5_now N)) (by decide) (Nat.le_of_ble_eq_true rfl) (fun E _ C => bX5_now C M x1) hb
theorem dX5_on_0 : decode cX5_on 0 = .ok (.aload_n 0, 1) := by decide +kernel
theorem dX5_on_1 : decode cX5_on 1 = .ok (.iload_n 1, 1) := by decide +kernel
theorem dX5_on_2 : decode cX5_on 2 = .ok (.invokevirtual 54, 3) := by decide +kernel
theorem dX5_on_5 : decode cX5_on 5 = .ok (.ifCond .eq 25, 3) := by decide +kernel
theorem dX5_on_8 : decode cX5_on 8 = .ok (.iload_n 2, 1) := by decide +kernel
theorem dX5_on_9 : decode cX5_on 9 = .ok (.i2l, 1) := by decide +kernel
theorem dX5_on_10 : decode cX5_on 10 = .ok (.lconst 0, 1) := by decide +kernel
theorem dX5_on_11 : decode cX5_on 11 = .ok (.ldc2_w 158, 3) := by decide +kernel
theorem dX5_on_14 : decode cX5_on 14 = .ok (.invokestatic 44, 3) := by decide +kernel
theorem dX5_on_17 : decode cX5_on 17 = .ok (.ifCond .eq 13, 3) := by decide +kernel
theorem dX5_on_20 : decode cX5_on 20 = .ok (.iload_n 3, 1) := by decide +kernel
theorem dX5_on_21 : decode cX5_on 21 = .ok (.i2l, 1) := by decide +kernel
theorem dX5_on_22 : decode cX5_on 22 = .ok (.lconst 0, 1) := by decide +kernel
theorem dX5_on_23 : decode cX5_on 23 = .ok (.lconst 1, 1) := by decide +kernel
theorem dX5_on_24 : decode cX5_on 24 = .ok (.invokestatic 44, 3) := by decide +kernel
theorem dX5_on_27 : decode cX5_on 27 = .ok (.ifCond .ne 10, 3) := by decide +kernel
theorem dX5_on_30 : decode cX5_on 30 = .ok (.aload_n 0, 1) := by decide +kernel
theorem dX5_on_31 : decode cX5_on 31 = .ok (.ldc 41, 2) := by decide +kernel
theorem dX5_on_33 : decode cX5_on 33 = .ok (.invokevirtual 65, 3) := by decide +kernel
theorem dX5_on_36 : decode cX5_on 36 = .ok (.ireturn, 1) := by decide +kernel
theorem dX5_on_37 : decode cX5_on 37 = .ok (.aload_n 0, 1) := by decide +kernel
theorem dX5_on_38 : decode cX5_on 38 = .ok (.invokevirtual 172, 3) := by decide +kernel
theorem dX5_on_41 : decode cX5_on 41 = .ok (.aload_n 0, 1) := by decide +kernel
theorem dX5_on_42 : decode cX5_on 42 = .ok (.iload_n 2, 1) := by decide +kernel
theorem dX5_on_43 : decode cX5_on 43 = .ok (.invokevirtual 160, 3) := by decide +kernel
theorem dX5_on_46 : decode cX5_on 46 = .ok (.aload_n 0, 1) := by decide +kernel
theorem dX5_on_47 : decode cX5_on 47 = .ok (.aload_n 0, 1) := by decide +kernel
theorem dX5_on_48 : decode cX5_on 48 = .ok (.iload_n 1, 1) := by decide +kernel
theorem dX5_on_49 : decode cX5_on 49 = .ok (.iload_n 3, 1) := by decide +kernel
theorem dX5_on_50 : decode cX5_on 50 = .ok (.ifCond .ne 7, 3) := by decide +kernel
theorem dX5_on_53 : decode cX5_on 53 = .ok (.iconst 1, 1) := by decide +kernel
theorem dX5_on_54 : decode cX5_on 54 = .ok (.goto 4, 3) := by decide +kernel
theorem dX5_on_57 : decode cX5_on 57 = .ok (.iconst 2, 1) := by decide +kernel
theorem dX5_on_58 : decode cX5_on 58 = .ok (.invokevirtual 83, 3) := by decide +kernel
theorem dX5_on_61 : decode cX5_on 61 = .ok (.invokevirtual 175, 3) := by decide +kernel
theorem dX5_on_64 : decode cX5_on 64 = .ok (.ireturn, 1) := by decide +kernel
def finX5_on (N : Ml) : Int32 × Mi → Option Value × Mi × Ml := fun b => (some (Value.int b.1), b.2, N)
noncomputable def fX5_on_30   (M : Mi) : Option (Int32 × Mi) := (Option.bind (fX5_finds M (-1000000001)) (fun a2 => (some (a2.1, (a2.2)))))
theorem bX5_on_30 {Z : Zt} {E : Ec} {N : Ml} (C : Ok 2 Z E cX5_on 4 RX5 (some .int) 6)    (M : Mi)  : GT Z E 4 (finX5_on N) 30 [(0, .ref (zA Z 6 0))] [] M N (fX5_on_30 M) := by
  unfold fX5_on_30
  refine r_aload_n C dX5_on_30 0 0 rfl rfl ?_
  refine r_ldc (v := (-1000000001)) C dX5_on_31 wd_859 ?_
  refine r_bind (fun a2 ha2 => ?_)
  refine r_callV (rest := []) (st2 := [.int a2.1]) C (mX5_finds (eL E) C.z M N (-1000000001) a2 ha2) lk_X5_65 (rvM C) (by decide) rfl rfl (Nat.le_of_ble_eq_true rfl) dX5_on_33 rfl ?_
  exact r_iret C dX5_on_36 rfl
noncomputable def fX5_on_58   (M : Mi) (s0 : Int32) (s1 : Int32) : Option (Int32 × Mi) := (Option.bind (fX5_its (M 0) s1 s0) (fun a9 => (Option.bind (fX5_takesBack M a9) (fun a10 => (some (a10.1, (a10.2)))))))
theorem bX5_on_58 {Z : Zt} {E : Ec} {N : Ml} (C : Ok 2 Z E cX5_on 4 RX5 (some .int) 6)    (M : Mi) (s0 : Int32) (s1 : Int32)  : GT Z E 4 (finX5_on N) 58 [] [.int s0, .int s1, .ref (zA Z 6 0), .ref (zA Z 6 0)] M N (fX5_on_58 M s0 s1) := by
  unfold fX5_on_58
  refine r_bind (fun a9 ha9 => ?_)
  refine r_callV (rest := [.ref (zA Z 6 0)]) (st2 := [.int a9, .ref (zA Z 6 0)]) C (mX5_its (eL E) C.z M _ (M 0) s1 s0 a9 ha9).selfR lk_X5_83 (rvM C) (by decide) rfl rfl (Nat.le_of_ble_eq_true rfl) dX5_on_58 rfl ?_
  refine r_bind (fun a10 ha10 => ?_)
  refine r_callV (rest := []) (st2 := [.int a10.1]) C (mX5_takesBack (eL E) C.z M N a9 a10 ha10) lk_X5_175 (rvM C) (by decide) rfl rfl (Nat.le_of_ble_eq_true rfl) dX5_on_61 rfl ?_
  exact r_iret C dX5_on_64 rfl
noncomputable def fX5_on   (M : Mi) (x1 : Int32) (x2 : Int32) (x3 : Int32) : Option (Int32 × Mi) := (if (fX5_isOne (M 0) x1) = 0 then (fX5_on_30 M) else (if (fX5_in (Int32.toInt64 x2) 0 72) = 0 then (fX5_on_30 M) else (if (fX5_in (Int32.toInt64 x3) 0 1) = 0 then (fX5_on_30 M) else (Option.bind (fX5_laysAside M) (fun a5 => (Option.bind (fX5_go (a5 0) x2) (fun a6 => (fX5_on_58 (sR a5 0 a6) (if x3 = 0 then 1 else 2 : Int32) x1))))))))
theorem bX5_on {Z : Zt} {E : Ec} {N : Ml} (C : Ok 2 Z E cX5_on 4 RX5 (some .int) 6)    (M : Mi) (x1 : Int32) (x2 : Int32) (x3 : Int32)  : GT Z E 4 (finX5_on N) 0 [(0, .ref (zA Z 6 0)), (1, .int x1), (2, .int x2), (3, .int x3)] [] M N (fX5_on M x1 x2 x3) := by
  unfold fX5_on
  refine r_aload_n C dX5_on_0 0 0 rfl rfl ?_
  refine r_iload_n C dX5_on_1 1 1 rfl rfl ?_
  refine r_callV (rest := []) (st2 := [.int (fX5_isOne (M 0) x1)]) C (mX5_isOne (eL E) C.z M _ (M 0) x1).selfR lk_X5_54 (rvM C) (by decide) rfl rfl (Nat.le_of_ble_eq_true rfl) dX5_on_2 rfl ?_
  refine r_if_eq (tgt := 30) C dX5_on_5 (by decide) (fun c1 => ?_) (fun c1 => ?_)
  · refine r_lv [0] (lv' := [(0, .ref (zA Z 6 0))]) rfl ?_
    exact bX5_on_30 C M
  · refine r_iload_n C dX5_on_8 2 2 rfl rfl ?_
    refine r_i2l C dX5_on_9 ?_
    refine r_lconst (v := 0) C dX5_on_10 (by decide) ?_
    refine r_ldc2 (v := 72) C dX5_on_11 wd_990 ?_
    refine r_callS (rest := []) (st2 := [.int (fX5_in (Int32.toInt64 x2) 0 72)]) C (mX5_in (eL E) C.z _ _ (Int32.toInt64 x2) 0 72) lk_X5_44 (by decide) rfl rfl (Nat.le_of_ble_eq_true rfl) dX5_on_14 rfl ?_
    refine r_if_eq (tgt := 30) C dX5_on_17 (by decide) (fun c3 => ?_) (fun c3 => ?_)
    · refine r_lv [0] (lv' := [(0, .ref (zA Z 6 0))]) rfl ?_
      exact bX5_on_30 C M
    · refine r_iload_n C dX5_on_20 3 3 rfl rfl ?_
      refine r_i2l C dX5_on_21 ?_
      refine r_lconst (v := 0) C dX5_on_22 (by decide) ?_
      refine r_lconst (v := 1) C dX5_on_23 (by decide) ?_
      refine r_callS (rest := []) (st2 := [.int (fX5_in (Int32.toInt64 x3) 0 1)]) C (mX5_in (eL E) C.z _ _ (Int32.toInt64 x3) 0 1) lk_X5_44 (by decide) rfl rfl (Nat.le_of_ble_eq_true rfl) dX5_on_24 rfl ?_
      refine r_if_ne (tgt := 37) C dX5_on_27 (by decide) (fun c4 => ?_) (fun c4 => ?_)
      · refine r_aload_n C dX5_on_37 0 0 rfl rfl ?_
        refine r_bind (fun a5 ha5 => ?_)
        refine r_callV (rest := []) (st2 := []) C (mX5_laysAside (eL E) C.z M N a5 ha5) lk_X5_172 (rvM C) (by decide) rfl rfl (Nat.le_of_ble_eq_true rfl) dX5_on_38 rfl ?_
        refine r_aload_n C dX5_on_41 0 0 rfl rfl ?_
        refine r_iload_n C dX5_on_42 2 2 rfl rfl ?_
        refine r_bind (fun a6 ha6 => ?_)
        refine r_callV (rest := []) (st2 := []) C (mX5_go (eL E) C.z a5 _ (a5 0) x2 a6 ha6).selfW lk_X5_160 (rvM C) (by decide) rfl rfl (Nat.le_of_ble_eq_true rfl) dX5_on_43 rfl ?_
        refine r_aload_n C dX5_on_46 0 0 rfl rfl ?_
        refine r_aload_n C dX5_on_47 0 0 rfl rfl ?_
        refine r_iload_n C dX5_on_48 1 1 rfl rfl ?_
        refine r_iload_n C dX5_on_49 3 3 rfl rfl ?_
        refine r_sel (tj := 58) (sj := [.int (if x3 = 0 then 1 else 2 : Int32), .int x1, .ref (zA Z 6 0), .ref (zA Z 6 0)]) ?_ (fun k8 => ?_)
        · refine r_lv [] (lv' := []) rfl ?_
          exact bX5_on_58 C (sR a5 0 a6) (if x3 = 0 then 1 else 2 : Int32) x1
        · refine r_same (P := x3 = 0) ?_
          refine r_if_ne (tgt := 57) C dX5_on_50 (by decide) (fun c7 => ?_) (fun c7 => ?_)
          · refine r_iconst (v := 2) C dX5_on_57 (by decide) ?_
            exact r_stk (if_neg c7) k8
          · refine r_iconst (v := 1) C dX5_on_53 (by decide) ?_
            refine r_goto (tgt := 58) C dX5_on_54 (by decide) ?_
            exact r_stk (if_pos c7) k8
      · refine r_lv [0] (lv' := [(0, .ref (zA Z 6 0))]) rfl ?_
        exact bX5_on_30 C M
theorem mX5_on (l : Launch) {Z : Zt} (hZ : Zok 2 Z) (M : Mi) (N : Ml) (x1 : Int32) (x2 : Int32) (x3 : Int32) (b : Int32 × Mi) (hb : fX5_on M x1 x2 x3 = some b) : Ct 2 Z l yX5_on cX5_on 4 (some .int) 6 [.ref (zA Z 6 0), .int x1, .int x2, .int x3] M N (some (Value.int b.1), b.2, N) :=
  metG (fin := (finX5_on N)) (by decide) (Nat.le_of_ble_eq_true rfl) (fun E _ C => bX5_on C M x1 x2 x3) hb
theorem dX5_whenOf_0 : decode cX5_whenOf 0 = .ok (.aload_n 0, 1) := by decide +kernel
theorem dX5_whenOf_1 : decode cX5_whenOf 1 = .ok (.invokevirtual 172, 3) := by decide +kernel
theorem dX5_whenOf_4 : decode cX5_whenOf 4 = .ok (.iconst 0, 1) := by decide +kernel
theorem dX5_whenOf_5 : decode cX5_whenOf 5 = .ok (.istore_n 3, 1) := by decide +kernel
theorem dX5_whenOf_6 : decode cX5_whenOf 6 = .ok (.iload_n 3, 1) := by decide +kernel
theorem dX5_whenOf_7 : decode cX5_whenOf 7 = .ok (.bipush 72, 2) := by decide +kernel
theorem dX5_whenOf_9 : decode cX5_whenOf 9 = .ok (.if_icmp .gt 23, 3) := by decide +kernel
theorem dX5_whenOf_12 : decode cX5_whenOf 12 = .ok (.aload_n 0, 1) := by decide +kernel
theorem dX5_whenOf_13 : decode cX5_whenOf 13 = .ok (.iload_n 1, 1) := by decide +kernel
theorem dX5_whenOf_14 : decode cX5_whenOf 14 = .ok (.iconst 1, 1) := by decide +kernel
theorem dX5_whenOf_15 : decode cX5_whenOf 15 = .ok (.invokevirtual 83, 3) := by decide +kernel
theorem dX5_whenOf_18 : decode cX5_whenOf 18 = .ok (.iload_n 2, 1) := by decide +kernel
theorem dX5_whenOf_19 : decode cX5_whenOf 19 = .ok (.if_icmp .eq 13, 3) := by decide +kernel
theorem dX5_whenOf_22 : decode cX5_whenOf 22 = .ok (.aload_n 0, 1) := by decide +kernel
theorem dX5_whenOf_23 : decode cX5_whenOf 23 = .ok (.invokevirtual 155, 3) := by decide +kernel
theorem dX5_whenOf_26 : decode cX5_whenOf 26 = .ok (.iinc 3 1, 3) := by decide +kernel
theorem dX5_whenOf_29 : decode cX5_whenOf 29 = .ok (.goto (-23), 3) := by decide +kernel
theorem dX5_whenOf_32 : decode cX5_whenOf 32 = .ok (.aload_n 0, 1) := by decide +kernel
theorem dX5_whenOf_33 : decode cX5_whenOf 33 = .ok (.iload_n 3, 1) := by decide +kernel
theorem dX5_whenOf_34 : decode cX5_whenOf 34 = .ok (.invokevirtual 175, 3) := by decide +kernel
theorem dX5_whenOf_37 : decode cX5_whenOf 37 = .ok (.ireturn, 1) := by decide +kernel
def finX5_whenOf (N : Ml) : Int32 × Mi → Option Value × Mi × Ml := fun b => (some (Value.int b.1), b.2, N)
noncomputable def fX5_whenOf_32   (M : Mi) (x3 : Int32) : Option (Int32 × Mi) := (Option.bind (fX5_takesBack M x3) (fun a3 => (some (a3.1, (a3.2)))))
theorem bX5_whenOf_32 {Z : Zt} {E : Ec} {N : Ml} (C : Ok 2 Z E cX5_whenOf 4 RX5 (some .int) 5)    (M : Mi) (x3 : Int32)  : GT Z E 4 (finX5_whenOf N) 32 [(0, .ref (zA Z 6 0)), (3, .int x3)] [] M N (fX5_whenOf_32 M x3) := by
  unfold fX5_whenOf_32
  refine r_aload_n C dX5_whenOf_32 0 0 rfl rfl ?_
  refine r_iload_n C dX5_whenOf_33 3 1 rfl rfl ?_
  refine r_bind (fun a3 ha3 => ?_)
  refine r_callV (rest := []) (st2 := [.int a3.1]) C (mX5_takesBack (eL E) C.z M N x3 a3 ha3) lk_X5_175 (rvM C) (by decide) rfl rfl (Nat.le_of_ble_eq_true rfl) dX5_whenOf_34 rfl ?_
  exact r_iret C dX5_whenOf_37 rfl
noncomputable def fX5_whenOf_6   : Nat → Mi → Int32 → Int32 → Int32 → Option (Int32 × Mi)
  | 0 => fun _ _ _ _ => none
  | n + 1 => fun M x1 x2 x3 => (if 72 < x3 then (fX5_whenOf_32 M x3) else (Option.bind (fX5_its (M 0) x1 1) (fun a4 => (if a4 = x2 then (fX5_whenOf_32 M x3) else (Option.bind (fX5_hour (M 0)) (fun a6 => ((fX5_whenOf_6 n) (sR M 0 a6) x1 x2 (x3 + 1))))))))
theorem bX5_whenOf_6 {Z : Zt} {E : Ec} {N : Ml} (C : Ok 2 Z E cX5_whenOf 4 RX5 (some .int) 5)    : ∀ (n : Nat) (M : Mi) (x1 : Int32) (x2 : Int32) (x3 : Int32), GT Z E 4 (finX5_whenOf N) 6 [(0, .ref (zA Z 6 0)), (1, .int x1), (2, .int x2), (3, .int x3)] [] M N (fX5_whenOf_6 n M x1 x2 x3) := by
  intro n
  induction n with
  | zero => intro M x1 x2 x3; exact r_none
  | succ n ih =>
    intro M x1 x2 x3
    rw [fX5_whenOf_6]
    refine r_iload_n C dX5_whenOf_6 3 3 rfl rfl ?_
    refine r_bipush (v := 72) C dX5_whenOf_7 (by decide) ?_
    refine r_ic_gt (tgt := 32) C dX5_whenOf_9 (by decide) (fun c2 => ?_) (fun c2 => ?_)
    · refine r_lv [0, 3] (lv' := [(0, .ref (zA Z 6 0)), (3, .int x3)]) rfl ?_
      exact bX5_whenOf_32 C M x3
    · refine r_aload_n C dX5_whenOf_12 0 0 rfl rfl ?_
      refine r_iload_n C dX5_whenOf_13 1 1 rfl rfl ?_
      refine r_iconst (v := 1) C dX5_whenOf_14 (by decide) ?_
      refine r_bind (fun a4 ha4 => ?_)
      refine r_callV (rest := []) (st2 := [.int a4]) C (mX5_its (eL E) C.z M _ (M 0) x1 1 a4 ha4).selfR lk_X5_83 (rvM C) (by decide) rfl rfl (Nat.le_of_ble_eq_true rfl) dX5_whenOf_15 rfl ?_
      refine r_iload_n C dX5_whenOf_18 2 2 rfl rfl ?_
      refine r_ic_eq (tgt := 32) C dX5_whenOf_19 (by decide) (fun c5 => ?_) (fun c5 => ?_)
      · refine r_lv [0, 3] (lv' := [(0, .ref (zA Z 6 0)), (3, .int x3)]) rfl ?_
        exact bX5_whenOf_32 C M x3
      · refine r_aload_n C dX5_whenOf_22 0 0 rfl rfl ?_
        refine r_bind (fun a6 ha6 => ?_)
        refine r_callV (rest := []) (st2 := []) C (mX5_hour (eL E) C.z M _ (M 0) a6 ha6).selfW lk_X5_155 (rvM C) (by decide) rfl rfl (Nat.le_of_ble_eq_true rfl) dX5_whenOf_23 rfl ?_
        refine r_iinc (v := (x3 + 1)) (lv' := [(3, .int (x3 + 1)), (0, .ref (zA Z 6 0)), (1, .int x1), (2, .int x2)]) C dX5_whenOf_26 3 rfl rfl (by decide) rfl ?_
        refine r_goto (tgt := 6) C dX5_whenOf_29 (by decide) ?_
        refine r_lv [1, 2, 3, 0] (lv' := [(0, .ref (zA Z 6 0)), (1, .int x1), (2, .int x2), (3, .int (x3 + 1))]) rfl ?_
        exact ih (sR M 0 a6) x1 x2 (x3 + 1)
noncomputable def fX5_whenOf   (M : Mi) (x1 : Int32) (x2 : Int32) : Option (Int32 × Mi) := (Option.bind (fX5_laysAside M) (fun a1 => (fX5_whenOf_6 fu a1 x1 x2 0)))
theorem bX5_whenOf {Z : Zt} {E : Ec} {N : Ml} (C : Ok 2 Z E cX5_whenOf 4 RX5 (some .int) 5)    (M : Mi) (x1 : Int32) (x2 : Int32)  : GT Z E 4 (finX5_whenOf N) 0 [(0, .ref (zA Z 6 0)), (1, .int x1), (2, .int x2)] [] M N (fX5_whenOf M x1 x2) := by
  unfold fX5_whenOf
  refine r_aload_n C dX5_whenOf_0 0 0 rfl rfl ?_
  refine r_bind (fun a1 ha1 => ?_)
  refine r_callV (rest := []) (st2 := []) C (mX5_laysAside (eL E) C.z M N a1 ha1) lk_X5_172 (rvM C) (by decide) rfl rfl (Nat.le_of_ble_eq_true rfl) dX5_whenOf_1 rfl ?_
  refine r_iconst (v := 0) C dX5_whenOf_4 (by decide) ?_
  refine r_istore_n (lv' := [(3, .int 0), (0, .ref (zA Z 6 0)), (1, .int x1), (2, .int x2)]) C dX5_whenOf_5 3 rfl (by decide) rfl ?_
  refine r_lv [1, 2, 3, 0] (lv' := [(0, .ref (zA Z 6 0)), (1, .int x1), (2, .int x2), (3, .int 0)]) rfl ?_
  exact bX5_whenOf_6 C fu a1 x1 x2 0
theorem mX5_whenOf (l : Launch) {Z : Zt} (hZ : Zok 2 Z) (M : Mi) (N : Ml) (x1 : Int32) (x2 : Int32) (b : Int32 × Mi) (hb : fX5_whenOf M x1 x2 = some b) : Ct 2 Z l yX5_whenOf cX5_whenOf 4 (some .int) 5 [.ref (zA Z 6 0), .int x1, .int x2] M N (some (Value.int b.1), b.2, N) :=
  metG (fin := (finX5_whenOf N)) (by decide) (Nat.le_of_ble_eq_true rfl) (fun E _ C => bX5_whenOf C M x1 x2) hb
theorem dX5_orNone_0 : decode cX5_orNone 0 = .ok (.iload_n 1, 1) := by decide +kernel
theorem dX5_orNone_1 : decode cX5_orNone 1 = .ok (.i2l, 1) := by decide +kernel
theorem dX5_orNone_2 : decode cX5_orNone 2 = .ok (.lconst 0, 1) := by decide +kernel
theorem dX5_orNone_3 : decode cX5_orNone 3 = .ok (.iload_n 2, 1) := by decide +kernel
theorem dX5_orNone_4 : decode cX5_orNone 4 = .ok (.i2l, 1) := by decide +kernel
theorem dX5_orNone_5 : decode cX5_orNone 5 = .ok (.invokestatic 44, 3) := by decide +kernel
theorem dX5_orNone_8 : decode cX5_orNone 8 = .ok (.ifCond .eq 7, 3) := by decide +kernel
theorem dX5_orNone_11 : decode cX5_orNone 11 = .ok (.iload_n 1, 1) := by decide +kernel
theorem dX5_orNone_12 : decode cX5_orNone 12 = .ok (.goto 9, 3) := by decide +kernel
theorem dX5_orNone_15 : decode cX5_orNone 15 = .ok (.aload_n 0, 1) := by decide +kernel
theorem dX5_orNone_16 : decode cX5_orNone 16 = .ok (.ldc 137, 2) := by decide +kernel
theorem dX5_orNone_18 : decode cX5_orNone 18 = .ok (.invokevirtual 65, 3) := by decide +kernel
theorem dX5_orNone_21 : decode cX5_orNone 21 = .ok (.ireturn, 1) := by decide +kernel
def finX5_orNone (N : Ml) : Int32 × Mi → Option Value × Mi × Ml := fun b => (some (Value.int b.1), b.2, N)
noncomputable def fX5_orNone   (M : Mi) (x1 : Int32) (x2 : Int32) : Option (Int32 × Mi) := (if (fX5_in (Int32.toInt64 x1) 0 (Int32.toInt64 x2)) = 0 then (Option.bind (fX5_finds M (-1000000004)) (fun a2 => (some (a2.1, (a2.2))))) else (some (x1, M)))
theorem bX5_orNone {Z : Zt} {E : Ec} {N : Ml} (C : Ok 2 Z E cX5_orNone 3 RX5 (some .int) 1)    (M : Mi) (x1 : Int32) (x2 : Int32)  : GT Z E 3 (finX5_orNone N) 0 [(0, .ref (zA Z 6 0)), (1, .int x1), (2, .int x2)] [] M N (fX5_orNone M x1 x2) := by
  unfold fX5_orNone
  refine r_iload_n C dX5_orNone_0 1 1 rfl rfl ?_
  refine r_i2l C dX5_orNone_1 ?_
  refine r_lconst (v := 0) C dX5_orNone_2 (by decide) ?_
  refine r_iload_n C dX5_orNone_3 2 2 rfl rfl ?_
  refine r_i2l C dX5_orNone_4 ?_
  refine r_callS (rest := []) (st2 := [.int (fX5_in (Int32.toInt64 x1) 0 (Int32.toInt64 x2))]) C (mX5_in (eL E) C.z _ _ (Int32.toInt64 x1) 0 (Int32.toInt64 x2)) lk_X5_44 (by decide) rfl rfl (Nat.le_of_ble_eq_true rfl) dX5_orNone_5 rfl ?_
  refine r_if_eq (tgt := 15) C dX5_orNone_8 (by decide) (fun c1 => ?_) (fun c1 => ?_)
  · refine r_aload_n C dX5_orNone_15 0 0 rfl rfl ?_
    refine r_ldc (v := (-1000000004)) C dX5_orNone_16 wd_981 ?_
    refine r_bind (fun a2 ha2 => ?_)
    refine r_callV (rest := []) (st2 := [.int a2.1]) C (mX5_finds (eL E) C.z M N (-1000000004) a2 ha2) lk_X5_65 (rvM C) (by decide) rfl rfl (Nat.le_of_ble_eq_true rfl) dX5_orNone_18 rfl ?_
    exact r_iret C dX5_orNone_21 rfl
  · refine r_iload_n C dX5_orNone_11 1 1 rfl rfl ?_
    refine r_goto (tgt := 21) C dX5_orNone_12 (by decide) ?_
    exact r_iret C dX5_orNone_21 rfl
theorem mX5_orNone (l : Launch) {Z : Zt} (hZ : Zok 2 Z) (M : Mi) (N : Ml) (x1 : Int32) (x2 : Int32) (b : Int32 × Mi) (hb : fX5_orNone M x1 x2 = some b) : Ct 2 Z l yX5_orNone cX5_orNone 3 (some .int) 1 [.ref (zA Z 6 0), .int x1, .int x2] M N (some (Value.int b.1), b.2, N) :=
  metG (fin := (finX5_orNone N)) (by decide) (Nat.le_of_ble_eq_true rfl) (fun E _ C => bX5_orNone C M x1 x2) hb
theorem dX5_when_0 : decode cX5_when 0 = .ok (.aload_n 0, 1) := by decide +kernel
theorem dX5_when_1 : decode cX5_when 1 = .ok (.iload_n 1, 1) := by decide +kernel
theorem dX5_when_2 : decode cX5_when 2 = .ok (.invokevirtual 54, 3) := by decide +kernel
theorem dX5_when_5 : decode cX5_when 5 = .ok (.ifCond .eq 25, 3) := by decide +kernel
theorem dX5_when_8 : decode cX5_when 8 = .ok (.iload_n 2, 1) := by decide +kernel
theorem dX5_when_9 : decode cX5_when 9 = .ok (.invokestatic 62, 3) := by decide +kernel
theorem dX5_when_12 : decode cX5_when 12 = .ok (.ifCond .eq 18, 3) := by decide +kernel
theorem dX5_when_15 : decode cX5_when 15 = .ok (.aload_n 0, 1) := by decide +kernel
theorem dX5_when_16 : decode cX5_when 16 = .ok (.aload_n 0, 1) := by decide +kernel
theorem dX5_when_17 : decode cX5_when 17 = .ok (.iload_n 1, 1) := by decide +kernel
theorem dX5_when_18 : decode cX5_when 18 = .ok (.iload_n 2, 1) := by decide +kernel
theorem dX5_when_19 : decode cX5_when 19 = .ok (.invokevirtual 178, 3) := by decide +kernel
theorem dX5_when_22 : decode cX5_when 22 = .ok (.bipush 72, 2) := by decide +kernel
theorem dX5_when_24 : decode cX5_when 24 = .ok (.invokevirtual 181, 3) := by decide +kernel
theorem dX5_when_27 : decode cX5_when 27 = .ok (.goto 9, 3) := by decide +kernel
theorem dX5_when_30 : decode cX5_when 30 = .ok (.aload_n 0, 1) := by decide +kernel
theorem dX5_when_31 : decode cX5_when 31 = .ok (.ldc 41, 2) := by decide +kernel
theorem dX5_when_33 : decode cX5_when 33 = .ok (.invokevirtual 65, 3) := by decide +kernel
theorem dX5_when_36 : decode cX5_when 36 = .ok (.ireturn, 1) := by decide +kernel
def finX5_when (N : Ml) : Int32 × Mi → Option Value × Mi × Ml := fun b => (some (Value.int b.1), b.2, N)
noncomputable def fX5_when_30   (M : Mi) : Option (Int32 × Mi) := (Option.bind (fX5_finds M (-1000000001)) (fun a2 => (some (a2.1, (a2.2)))))
theorem bX5_when_30 {Z : Zt} {E : Ec} {N : Ml} (C : Ok 2 Z E cX5_when 3 RX5 (some .int) 6)    (M : Mi)  : GT Z E 3 (finX5_when N) 30 [(0, .ref (zA Z 6 0))] [] M N (fX5_when_30 M) := by
  unfold fX5_when_30
  refine r_aload_n C dX5_when_30 0 0 rfl rfl ?_
  refine r_ldc (v := (-1000000001)) C dX5_when_31 wd_859 ?_
  refine r_bind (fun a2 ha2 => ?_)
  refine r_callV (rest := []) (st2 := [.int a2.1]) C (mX5_finds (eL E) C.z M N (-1000000001) a2 ha2) lk_X5_65 (rvM C) (by decide) rfl rfl (Nat.le_of_ble_eq_true rfl) dX5_when_33 rfl ?_
  exact r_iret C dX5_when_36 rfl
noncomputable def fX5_when   (M : Mi) (x1 : Int32) (x2 : Int32) : Option (Int32 × Mi) := (if (fX5_isOne (M 0) x1) = 0 then (fX5_when_30 M) else (if (fX5_isCell x2) = 0 then (fX5_when_30 M) else (Option.bind (fX5_whenOf M x1 x2) (fun a4 => (Option.bind (fX5_orNone (a4.2) a4.1 72) (fun a5 => (some (a5.1, (a5.2)))))))))
theorem bX5_when {Z : Zt} {E : Ec} {N : Ml} (C : Ok 2 Z E cX5_when 3 RX5 (some .int) 6)    (M : Mi) (x1 : Int32) (x2 : Int32)  : GT Z E 3 (finX5_when N) 0 [(0, .ref (zA Z 6 0)), (1, .int x1), (2, .int x2)] [] M N (fX5_when M x1 x2) := by
  unfold fX5_when
  refine r_aload_n C dX5_when_0 0 0 rfl rfl ?_
  refine r_iload_n C dX5_when_1 1 1 rfl rfl ?_
  refine r_callV (rest := []) (st2 := [.int (fX5_isOne (M 0) x1)]) C (mX5_isOne (eL E) C.z M _ (M 0) x1).selfR lk_X5_54 (rvM C) (by decide) rfl rfl (Nat.le_of_ble_eq_true rfl) dX5_when_2 rfl ?_
  refine r_if_eq (tgt := 30) C dX5_when_5 (by decide) (fun c1 => ?_) (fun c1 => ?_)
  · refine r_lv [0] (lv' := [(0, .ref (zA Z 6 0))]) rfl ?_
    exact bX5_when_30 C M
  · refine r_iload_n C dX5_when_8 2 2 rfl rfl ?_
    refine r_callS (rest := []) (st2 := [.int (fX5_isCell x2)]) C (mX5_isCell (eL E) C.z _ _ x2) lk_X5_62 (by decide) rfl rfl (Nat.le_of_ble_eq_true rfl) dX5_when_9 rfl ?_
    refine r_if_eq (tgt := 30) C dX5_when_12 (by decide) (fun c3 => ?_) (fun c3 => ?_)
    · refine r_lv [0] (lv' := [(0, .ref (zA Z 6 0))]) rfl ?_
      exact bX5_when_30 C M
    · refine r_aload_n C dX5_when_15 0 0 rfl rfl ?_
      refine r_aload_n C dX5_when_16 0 0 rfl rfl ?_
      refine r_iload_n C dX5_when_17 1 1 rfl rfl ?_
      refine r_iload_n C dX5_when_18 2 2 rfl rfl ?_
      refine r_bind (fun a4 ha4 => ?_)
      refine r_callV (rest := [.ref (zA Z 6 0)]) (st2 := [.int a4.1, .ref (zA Z 6 0)]) C (mX5_whenOf (eL E) C.z M N x1 x2 a4 ha4) lk_X5_178 (rvM C) (by decide) rfl rfl (Nat.le_of_ble_eq_true rfl) dX5_when_19 rfl ?_
      refine r_bipush (v := 72) C dX5_when_22 (by decide) ?_
      refine r_bind (fun a5 ha5 => ?_)
      refine r_callV (rest := []) (st2 := [.int a5.1]) C (mX5_orNone (eL E) C.z (a4.2) N a4.1 72 a5 ha5) lk_X5_181 (rvM C) (by decide) rfl rfl (Nat.le_of_ble_eq_true rfl) dX5_when_24 rfl ?_
      refine r_goto (tgt := 36) C dX5_when_27 (by decide) ?_
      exact r_iret C dX5_when_36 rfl
theorem mX5_when (l : Launch) {Z : Zt} (hZ : Zok 2 Z) (M : Mi) (N : Ml) (x1 : Int32) (x2 : Int32) (b : Int32 × Mi) (hb : fX5_when M x1 x2 = some b) : Ct 2 Z l yX5_when cX5_when 3 (some .int) 6 [.ref (zA Z 6 0), .int x1, .int x2] M N (some (Value.int b.1), b.2, N) :=
  metG (fin := (finX5_when N)) (by decide) (Nat.le_of_ble_eq_true rfl) (fun E _ C => bX5_when C M x1 x2) hb
theorem dX5_meet_0 : decode cX5_meet 0 = .ok (.aload_n 0, 1) := by decide +kernel
theorem dX5_meet_1 : decode cX5_meet 1 = .ok (.iload_n 1, 1) := by decide +kernel
theorem dX5_meet_2 : decode cX5_meet 2 = .ok (.iload_n 2, 1) := by decide +kernel
theorem dX5_meet_3 : decode cX5_meet 3 = .ok (.invokevirtual 129, 3) := by decide +kernel
theorem dX5_meet_6 : decode cX5_meet 6 = .ok (.ifCond .ne 10, 3) := by decide +kernel
theorem dX5_meet_9 : decode cX5_meet 9 = .ok (.aload_n 0, 1) := by decide +kernel
theorem dX5_meet_10 : decode cX5_meet 10 = .ok (.ldc 41, 2) := by decide +kernel
theorem dX5_meet_12 : decode cX5_meet 12 = .ok (.invokevirtual 65, 3) := by decide +kernel
theorem dX5_meet_15 : decode cX5_meet 15 = .ok (.ireturn, 1) := by decide +kernel
theorem dX5_meet_16 : decode cX5_meet 16 = .ok (.aload_n 0, 1) := by decide +kernel
theorem dX5_meet_17 : decode cX5_meet 17 = .ok (.invokevirtual 172, 3) := by decide +kernel
theorem dX5_meet_20 : decode cX5_meet 20 = .ok (.iconst 0, 1) := by decide +kernel
theorem dX5_meet_21 : decode cX5_meet 21 = .ok (.istore_n 3, 1) := by decide +kernel
theorem dX5_meet_22 : decode cX5_meet 22 = .ok (.iload_n 3, 1) := by decide +kernel
theorem dX5_meet_23 : decode cX5_meet 23 = .ok (.bipush 72, 2) := by decide +kernel
theorem dX5_meet_25 : decode cX5_meet 25 = .ok (.if_icmp .gt 28, 3) := by decide +kernel
theorem dX5_meet_28 : decode cX5_meet 28 = .ok (.aload_n 0, 1) := by decide +kernel
theorem dX5_meet_29 : decode cX5_meet 29 = .ok (.iload_n 1, 1) := by decide +kernel
theorem dX5_meet_30 : decode cX5_meet 30 = .ok (.iconst 1, 1) := by decide +kernel
theorem dX5_meet_31 : decode cX5_meet 31 = .ok (.invokevirtual 83, 3) := by decide +kernel
theorem dX5_meet_34 : decode cX5_meet 34 = .ok (.aload_n 0, 1) := by decide +kernel
theorem dX5_meet_35 : decode cX5_meet 35 = .ok (.iload_n 2, 1) := by decide +kernel
theorem dX5_meet_36 : decode cX5_meet 36 = .ok (.iconst 1, 1) := by decide +kernel
theorem dX5_meet_37 : decode cX5_meet 37 = .ok (.invokevirtual 83, 3) := by decide +kernel
theorem dX5_meet_40 : decode cX5_meet 40 = .ok (.if_icmp .eq 13, 3) := by decide +kernel
theorem dX5_meet_43 : decode cX5_meet 43 = .ok (.aload_n 0, 1) := by decide +kernel
theorem dX5_meet_44 : decode cX5_meet 44 = .ok (.invokevirtual 155, 3) := by decide +kernel
theorem dX5_meet_47 : decode cX5_meet 47 = .ok (.iinc 3 1, 3) := by decide +kernel
theorem dX5_meet_50 : decode cX5_meet 50 = .ok (.goto (-28), 3) := by decide +kernel
theorem dX5_meet_53 : decode cX5_meet 53 = .ok (.aload_n 0, 1) := by decide +kernel
theorem dX5_meet_54 : decode cX5_meet 54 = .ok (.aload_n 0, 1) := by decide +kernel
theorem dX5_meet_55 : decode cX5_meet 55 = .ok (.iload_n 3, 1) := by decide +kernel
theorem dX5_meet_56 : decode cX5_meet 56 = .ok (.invokevirtual 175, 3) := by decide +kernel
theorem dX5_meet_59 : decode cX5_meet 59 = .ok (.bipush 72, 2) := by decide +kernel
theorem dX5_meet_61 : decode cX5_meet 61 = .ok (.invokevirtual 181, 3) := by decide +kernel
theorem dX5_meet_64 : decode cX5_meet 64 = .ok (.ireturn, 1) := by decide +kernel
def finX5_meet (N : Ml) : Int32 × Mi → Option Value × Mi × Ml := fun b => (some (Value.int b.1), b.2, N)
noncomputable def fX5_meet_53   (M : Mi) (x3 : Int32) : Option (Int32 × Mi) := (Option.bind (fX5_takesBack M x3) (fun a4 => (Option.bind (fX5_orNone (a4.2) a4.1 72) (fun a5 => (some (a5.1, (a5.2)))))))
theorem bX5_meet_53 {Z : Zt} {E : Ec} {N : Ml} (C : Ok 2 Z E cX5_meet 4 RX5 (some .int) 5)    (M : Mi) (x3 : Int32)  : GT Z E 4 (finX5_meet N) 53 [(0, .ref (zA Z 6 0)), (3, .int x3)] [] M N (fX5_meet_53 M x3) := by
  unfold fX5_meet_53
  refine r_aload_n C dX5_meet_53 0 0 rfl rfl ?_
  refine r_aload_n C dX5_meet_54 0 0 rfl rfl ?_
  refine r_iload_n C dX5_meet_55 3 1 rfl rfl ?_
  refine r_bind (fun a4 ha4 => ?_)
  refine r_callV (rest := [.ref (zA Z 6 0)]) (st2 := [.int a4.1, .ref (zA Z 6 0)]) C (mX5_takesBack (eL E) C.z M N x3 a4 ha4) lk_X5_175 (rvM C) (by decide) rfl rfl (Nat.le_of_ble_eq_true rfl) dX5_meet_56 rfl ?_
  refine r_bipush (v := 72) C dX5_meet_59 (by decide) ?_
  refine r_bind (fun a5 ha5 => ?_)
  refine r_callV (rest := []) (st2 := [.int a5.1]) C (mX5_orNone (eL E) C.z (a4.2) N a4.1 72 a5 ha5) lk_X5_181 (rvM C) (by decide) rfl rfl (Nat.le_of_ble_eq_true rfl) dX5_meet_61 rfl ?_
  exact r_iret C dX5_meet_64 rfl
noncomputable def fX5_meet_22   : Nat → Mi → Int32 → Int32 → Int32 → Option (Int32 × Mi)
  | 0 => fun _ _ _ _ => none
  | n + 1 => fun M x1 x2 x3 => (if 72 < x3 then (fX5_meet_53 M x3) else (Option.bind (fX5_its (M 0) x1 1) (fun a6 => (Option.bind (fX5_its (M 0) x2 1) (fun a7 => (if a6 = a7 then (fX5_meet_53 M x3) else (Option.bind (fX5_hour (M 0)) (fun a9 => ((fX5_meet_22 n) (sR M 0 a9) x1 x2 (x3 + 1))))))))))
theorem bX5_meet_22 {Z : Zt} {E : Ec} {N : Ml} (C : Ok 2 Z E cX5_meet 4 RX5 (some .int) 5)    : ∀ (n : Nat) (M : Mi) (x1 : Int32) (x2 : Int32) (x3 : Int32), GT Z E 4 (finX5_meet N) 22 [(0, .ref (zA Z 6 0)), (1, .int x1), (2, .int x2), (3, .int x3)] [] M N (fX5_meet_22 n M x1 x2 x3) := by
  intro n
  induction n with
  | zero => intro M x1 x2 x3; exact r_none
  | succ n ih =>
    intro M x1 x2 x3
    rw [fX5_meet_22]
    refine r_iload_n C dX5_meet_22 3 3 rfl rfl ?_
    refine r_bipush (v := 72) C dX5_meet_23 (by decide) ?_
    refine r_ic_gt (tgt := 53) C dX5_meet_25 (by decide) (fun c3 => ?_) (fun c3 => ?_)
    · refine r_lv [0, 3] (lv' := [(0, .ref (zA Z 6 0)), (3, .int x3)]) rfl ?_
      exact bX5_meet_53 C M x3
    · refine r_aload_n C dX5_meet_28 0 0 rfl rfl ?_
      refine r_iload_n C dX5_meet_29 1 1 rfl rfl ?_
      refine r_iconst (v := 1) C dX5_meet_30 (by decide) ?_
      refine r_bind (fun a6 ha6 => ?_)
      refine r_callV (rest := []) (st2 := [.int a6]) C (mX5_its (eL E) C.z M _ (M 0) x1 1 a6 ha6).selfR lk_X5_83 (rvM C) (by decide) rfl rfl (Nat.le_of_ble_eq_true rfl) dX5_meet_31 rfl ?_
      refine r_aload_n C dX5_meet_34 0 0 rfl rfl ?_
      refine r_iload_n C dX5_meet_35 2 2 rfl rfl ?_
      refine r_iconst (v := 1) C dX5_meet_36 (by decide) ?_
      refine r_bind (fun a7 ha7 => ?_)
      refine r_callV (rest := [.int a6]) (st2 := [.int a7, .int a6]) C (mX5_its (eL E) C.z M _ (M 0) x2 1 a7 ha7).selfR lk_X5_83 (rvM C) (by decide) rfl rfl (Nat.le_of_ble_eq_true rfl) dX5_meet_37 rfl ?_
      refine r_ic_eq (tgt := 53) C dX5_meet_40 (by decide) (fun c8 => ?_) (fun c8 => ?_)
      · refine r_lv [0, 3] (lv' := [(0, .ref (zA Z 6 0)), (3, .int x3)]) rfl ?_
        exact bX5_meet_53 C M x3
      · refine r_aload_n C dX5_meet_43 0 0 rfl rfl ?_
        refine r_bind (fun a9 ha9 => ?_)
        refine r_callV (rest := []) (st2 := []) C (mX5_hour (eL E) C.z M _ (M 0) a9 ha9).selfW lk_X5_155 (rvM C) (by decide) rfl rfl (Nat.le_of_ble_eq_true rfl) dX5_meet_44 rfl ?_
        refine r_iinc (v := (x3 + 1)) (lv' := [(3, .int (x3 + 1)), (0, .ref (zA Z 6 0)), (1, .int x1), (2, .int x2)]) C dX5_meet_47 3 rfl rfl (by decide) rfl ?_
        refine r_goto (tgt := 22) C dX5_meet_50 (by decide) ?_
        refine r_lv [1, 2, 3, 0] (lv' := [(0, .ref (zA Z 6 0)), (1, .int x1), (2, .int x2), (3, .int (x3 + 1))]) rfl ?_
        exact ih (sR M 0 a9) x1 x2 (x3 + 1)
noncomputable def fX5_meet   (M : Mi) (x1 : Int32) (x2 : Int32) : Option (Int32 × Mi) := (if (fX5_areTwo (M 0) x1 x2) = 0 then (Option.bind (fX5_finds M (-1000000001)) (fun a10 => (some (a10.1, (a10.2))))) else (Option.bind (fX5_laysAside M) (fun a2 => (fX5_meet_22 fu a2 x1 x2 0))))
theorem bX5_meet {Z : Zt} {E : Ec} {N : Ml} (C : Ok 2 Z E cX5_meet 4 RX5 (some .int) 5)    (M : Mi) (x1 : Int32) (x2 : Int32)  : GT Z E 4 (finX5_meet N) 0 [(0, .ref (zA Z 6 0)), (1, .int x1), (2, .int x2)] [] M N (fX5_meet M x1 x2) := by
  unfold fX5_meet
  refine r_aload_n C dX5_meet_0 0 0 rfl rfl ?_
  refine r_iload_n C dX5_meet_1 1 1 rfl rfl ?_
  refine r_iload_n C dX5_meet_2 2 2 rfl rfl ?_
  refine r_callV (rest := []) (st2 := [.int (fX5_areTwo (M 0) x1 x2)]) C (mX5_areTwo (eL E) C.z M _ (M 0) x1 x2).selfR lk_X5_129 (rvM C) (by decide) rfl rfl (Nat.le_of_ble_eq_true rfl) dX5_meet_3 rfl ?_
  refine r_if_ne (tgt := 16) C dX5_meet_6 (by decide) (fun c1 => ?_) (fun c1 => ?_)
  · refine r_aload_n C dX5_meet_16 0 0 rfl rfl ?_
    refine r_bind (fun a2 ha2 => ?_)
    refine r_callV (rest := []) (st2 := []) C (mX5_laysAside (eL E) C.z M N a2 ha2) lk_X5_172 (rvM C) (by decide) rfl rfl (Nat.le_of_ble_eq_true rfl) dX5_meet_17 rfl ?_
    refine r_iconst (v := 0) C dX5_meet_20 (by decide) ?_
    refine r_istore_n (lv' := [(3, .int 0), (0, .ref (zA Z 6 0)), (1, .int x1), (2, .int x2)]) C dX5_meet_21 3 rfl (by decide) rfl ?_
    refine r_lv [1, 2, 3, 0] (lv' := [(0, .ref (zA Z 6 0)), (1, .int x1), (2, .int x2), (3, .int 0)]) rfl ?_
    exact bX5_meet_22 C fu a2 x1 x2 0
  · refine r_aload_n C dX5_meet_9 0 0 rfl rfl ?_
    refine r_ldc (v := (-1000000001)) C dX5_meet_10 wd_859 ?_
    refine r_bind (fun a10 ha10 => ?_)
    refine r_callV (rest := []) (st2 := [.int a10.1]) C (mX5_finds (eL E) C.z M N (-1000000001) a10 ha10) lk_X5_65 (rvM C) (by decide) rfl rfl (Nat.le_of_ble_eq_true rfl) dX5_meet_12 rfl ?_
    exact r_iret C dX5_meet_15 rfl
theorem mX5_meet (l : Launch) {Z : Zt} (hZ : Zok 2 Z) (M : Mi) (N : Ml) (x1 : Int32) (x2 : Int32) (b : Int32 × Mi) (hb : fX5_meet M x1 x2 = some b) : Ct 2 Z l yX5_meet cX5_meet 4 (some .int) 5 [.ref (zA Z 6 0), .int x1, .int x2] M N (some (Value.int b.1), b.2, N) :=
  metG (fin := (finX5_meet N)) (by decide) (Nat.le_of_ble_eq_true rfl) (fun E _ C => bX5_meet C M x1 x2) hb
theorem dX5_carriers_0 : decode cX5_carriers 0 = .ok (.iconst 0, 1) := by decide +kernel
theorem dX5_carriers_1 : decode cX5_carriers 1 = .ok (.istore_n 2, 1) := by decide +kernel
theorem dX5_carriers_2 : decode cX5_carriers 2 = .ok (.iconst 0, 1) := by decide +kernel
theorem dX5_carriers_3 : decode cX5_carriers 3 = .ok (.istore_n 3, 1) := by decide +kernel
theorem dX5_carriers_4 : decode cX5_carriers 4 = .ok (.iload_n 3, 1) := by decide +kernel
theorem dX5_carriers_5 : decode cX5_carriers 5 = .ok (.aload_n 0, 1) := by decide +kernel
theorem dX5_carriers_6 : decode cX5_carriers 6 = .ok (.getfield 7, 3) := by decide +kernel
theorem dX5_carriers_9 : decode cX5_carriers 9 = .ok (.iconst 1, 1) := by decide +kernel
theorem dX5_carriers_10 : decode cX5_carriers 10 = .ok (.iaload, 1) := by decide +kernel
theorem dX5_carriers_11 : decode cX5_carriers 11 = .ok (.if_icmp .ge 24, 3) := by decide +kernel
theorem dX5_carriers_14 : decode cX5_carriers 14 = .ok (.iload_n 2, 1) := by decide +kernel
theorem dX5_carriers_15 : decode cX5_carriers 15 = .ok (.aload_n 0, 1) := by decide +kernel
theorem dX5_carriers_16 : decode cX5_carriers 16 = .ok (.iload_n 3, 1) := by decide +kernel
theorem dX5_carriers_17 : decode cX5_carriers 17 = .ok (.iconst 2, 1) := by decide +kernel
theorem dX5_carriers_18 : decode cX5_carriers 18 = .ok (.invokevirtual 83, 3) := by decide +kernel
theorem dX5_carriers_21 : decode cX5_carriers 21 = .ok (.iload_n 1, 1) := by decide +kernel
theorem dX5_carriers_22 : decode cX5_carriers 22 = .ok (.ishr, 1) := by decide +kernel
theorem dX5_carriers_23 : decode cX5_carriers 23 = .ok (.iconst 1, 1) := by decide +kernel
theorem dX5_carriers_24 : decode cX5_carriers 24 = .ok (.iand, 1) := by decide +kernel
theorem dX5_carriers_25 : decode cX5_carriers 25 = .ok (.iload_n 3, 1) := by decide +kernel
theorem dX5_carriers_26 : decode cX5_carriers 26 = .ok (.ishl, 1) := by decide +kernel
theorem dX5_carriers_27 : decode cX5_carriers 27 = .ok (.ior, 1) := by decide +kernel
theorem dX5_carriers_28 : decode cX5_carriers 28 = .ok (.istore_n 2, 1) := by decide +kernel
theorem dX5_carriers_29 : decode cX5_carriers 29 = .ok (.iinc 3 1, 3) := by decide +kernel
theorem dX5_carriers_32 : decode cX5_carriers 32 = .ok (.goto (-28), 3) := by decide +kernel
theorem dX5_carriers_35 : decode cX5_carriers 35 = .ok (.iload_n 2, 1) := by decide +kernel
theorem dX5_carriers_36 : decode cX5_carriers 36 = .ok (.ireturn, 1) := by decide +kernel
def finX5_carriers (M0 : Mi) (σ : Nat → Int32) (N : Ml) : Int32 → Option Value × Mi × Ml := fun b => (some (Value.int b), sR M0 0 σ, N)
noncomputable def fX5_carriers_4 (σ : Nat → Int32)  : Nat → Int32 → Int32 → Int32 → Option (Int32)
  | 0 => fun _ _ _ => none
  | n + 1 => fun x1 x2 x3 => (if (σ 1) ≤ x3 then (some x2) else (Option.bind (fX5_its σ x3 2) (fun a2 => ((fX5_carriers_4 σ n) x1 (x2 ||| (((a2 >>> (x1 &&& 31)) &&& 1) <<< (x3 &&& 31))) (x3 + 1)))))
theorem bX5_carriers_4 {Z : Zt} {E : Ec} {M0 : Mi} {σ : Nat → Int32} {N : Ml} (C : Ok 2 Z E cX5_carriers 4 RX5 (some .int) 2)    : ∀ (n : Nat) (x1 : Int32) (x2 : Int32) (x3 : Int32), GT Z E 4 (finX5_carriers M0 σ N) 4 [(0, .ref (zA Z 6 0)), (1, .int x1), (2, .int x2), (3, .int x3)] [] (sR M0 0 σ) N (fX5_carriers_4 σ n x1 x2 x3) := by
  intro n
  induction n with
  | zero => intro x1 x2 x3; exact r_none
  | succ n ih =>
    intro x1 x2 x3
    rw [fX5_carriers_4]
    refine r_iload_n C dX5_carriers_4 3 3 rfl rfl ?_
    refine r_aload_n C dX5_carriers_5 0 0 rfl rfl ?_
    refine gf_X5_7 C dX5_carriers_6 ?_
    refine r_iconst (v := 1) C dX5_carriers_9 (by decide) ?_
    refine ald_M (v := (σ 1)) C mI_0 (by decide) (sR_at _ _ _ _) dX5_carriers_10 ?_
    refine r_ic_ge (tgt := 35) C dX5_carriers_11 (by decide) (fun c1 => ?_) (fun c1 => ?_)
    · refine r_iload_n C dX5_carriers_35 2 2 rfl rfl ?_
      exact r_iret C dX5_carriers_36 rfl
    · refine r_iload_n C dX5_carriers_14 2 2 rfl rfl ?_
      refine r_aload_n C dX5_carriers_15 0 0 rfl rfl ?_
      refine r_iload_n C dX5_carriers_16 3 3 rfl rfl ?_
      refine r_iconst (v := 2) C dX5_carriers_17 (by decide) ?_
      refine r_bind (fun a2 ha2 => ?_)
      refine r_callV (rest := [.int x2]) (st2 := [.int a2, .int x2]) C (mX5_its (eL E) C.z _ _ σ x3 2 a2 ha2) lk_X5_83 (rvM C) (by decide) rfl rfl (Nat.le_of_ble_eq_true rfl) dX5_carriers_18 rfl ?_
      refine r_iload_n C dX5_carriers_21 1 1 rfl rfl ?_
      refine r_ishr C dX5_carriers_22 ?_
      refine r_iconst (v := 1) C dX5_carriers_23 (by decide) ?_
      refine r_iand C dX5_carriers_24 ?_
      refine r_iload_n C dX5_carriers_25 3 3 rfl rfl ?_
      refine r_ishl C dX5_carriers_26 ?_
      refine r_ior C dX5_carriers_27 ?_
      refine r_istore_n (lv' := [(2, .int (x2 ||| (((a2 >>> (x1 &&& 31)) &&& 1) <<< (x3 &&& 31)))), (0, .ref (zA Z 6 0)), (1, .int x1), (3, .int x3)]) C dX5_carriers_28 2 rfl (by decide) rfl ?_
      refine r_iinc (v := (x3 + 1)) (lv' := [(3, .int (x3 + 1)), (2, .int (x2 ||| (((a2 >>> (x1 &&& 31)) &&& 1) <<< (x3 &&& 31)))), (0, .ref (zA Z 6 0)), (1, .int x1)]) C dX5_carriers_29 3 rfl rfl (by decide) rfl ?_
      refine r_goto (tgt := 4) C dX5_carriers_32 (by decide) ?_
      refine r_lv [2, 3, 1, 0] (lv' := [(0, .ref (zA Z 6 0)), (1, .int x1), (2, .int (x2 ||| (((a2 >>> (x1 &&& 31)) &&& 1) <<< (x3 &&& 31)))), (3, .int (x3 + 1))]) rfl ?_
      exact ih x1 (x2 ||| (((a2 >>> (x1 &&& 31)) &&& 1) <<< (x3 &&& 31))) (x3 + 1)
noncomputable def fX5_carriers (σ : Nat → Int32)  (x1 : Int32) : Option (Int32) := (fX5_carriers_4 σ fu x1 0 0)
theorem bX5_carriers {Z : Zt} {E : Ec} {M0 : Mi} {σ : Nat → Int32} {N : Ml} (C : Ok 2 Z E cX5_carriers 4 RX5 (some .int) 2)    (x1 : Int32)  : GT Z E 4 (finX5_carriers M0 σ N) 0 [(0, .ref (zA Z 6 0)), (1, .int x1)] [] (sR M0 0 σ) N (fX5_carriers σ x1) := by
  unfold fX5_carriers
  refine r_iconst (v := 0) C dX5_carriers_0 (by decide) ?_
  refine r_istore_n (lv' := [(2, .int 0), (0, .ref (zA Z 6 0)), (1, .int x1)]) C dX5_carriers_1 2 rfl (by decide) rfl ?_
  refine r_iconst (v := 0) C dX5_carriers_2 (by decide) ?_
  refine r_istore_n (lv' := [(3, .int 0), (2, .int 0), (0, .ref (zA Z 6 0)), (1, .int x1)]) C dX5_carriers_3 3 rfl (by decide) rfl ?_
  refine r_lv [2, 3, 1, 0] (lv' := [(0, .ref (zA Z 6 0)), (1, .int x1), (2, .int 0), (3, .int 0)]) rfl ?_
  exact bX5_carriers_4 C fu x1 0 0
theorem mX5_carriers (l : Launch) {Z : Zt} (hZ : Zok 2 Z) (M0 : Mi) (N : Ml) (σ : Nat → Int32) (x1 : Int32) (b : Int32) (hb : fX5_carriers σ x1 = some b) : Ct 2 Z l yX5_carriers cX5_carriers 4 (some .int) 2 [.ref (zA Z 6 0), .int x1] (sR M0 0 σ) N (some (Value.int b), sR M0 0 σ, N) :=
  metG (fin := (finX5_carriers M0 σ N)) (by decide) (Nat.le_of_ble_eq_true rfl) (fun E _ C => bX5_carriers C x1) hb
