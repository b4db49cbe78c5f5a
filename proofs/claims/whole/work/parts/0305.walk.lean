theorem dX4_image_0 : decode cX4_image 0 = .ok (.aload_n 0, 1) := by decide +kernel
theorem dX4_image_1 : decode cX4_image 1 = .ok (.getfield 19, 3) := by decide +kernel
theorem dX4_image_4 : decode cX4_image 4 = .ok (.aload_n 0, 1) := by decide +kernel
theorem dX4_image_5 : decode cX4_image 5 = .ok (.getfield 12, 3) := by decide +kernel
theorem dX4_image_8 : decode cX4_image 8 = .ok (.invokevirtual 163, 3) := by decide +kernel
theorem dX4_image_11 : decode cX4_image 11 = .ok (.aload_n 0, 1) := by decide +kernel
theorem dX4_image_12 : decode cX4_image 12 = .ok (.iconst 1, 1) := by decide +kernel
theorem dX4_image_13 : decode cX4_image 13 = .ok (.putfield 47, 3) := by decide +kernel
theorem dX4_image_16 : decode cX4_image 16 = .ok (.iconst 1, 1) := by decide +kernel
theorem dX4_image_17 : decode cX4_image 17 = .ok (.ireturn, 1) := by decide +kernel
def finX4_image (N : Ml) : Int32 × Mi → Option Value × Mi × Ml := fun b => (some (Value.int b.1), b.2, N)
noncomputable def fX4_image   (M : Mi) : Option (Int32 × Mi) := (Option.bind (fX0_becomes (M 0) (M 2)) (fun a1 => (some (1, (wM (sR M 2 a1) 8 0 1)))))
theorem bX4_image {Z : Zt} {E : Ec} {N : Ml} (C : Ok 1 Z E cX4_image 1 RX4 (some .int) 1)    (M : Mi)  : GT Z E 1 (finX4_image N) 0 [(0, .ref (zA Z 8 0))] [] M N (fX4_image M) := by
  unfold fX4_image
  refine r_aload_n C dX4_image_0 0 0 rfl rfl ?_
  refine gf_X4_19 C dX4_image_1 ?_
  refine r_aload_n C dX4_image_4 0 0 rfl rfl ?_
  refine gf_X4_12 C dX4_image_5 ?_
  refine r_bind (fun a1 ha1 => ?_)
  refine r_callV (rest := []) (st2 := []) C (mX0_becomes (eL E) C.z (by decide) (by decide) (by decide) M _ (M 2) a1 ha1).selfW lk_X4_163 (rvI C (by decide)) (by decide) rfl rfl (Nat.le_of_ble_eq_true rfl) dX4_image_8 rfl ?_
  refine r_aload_n C dX4_image_11 0 0 rfl rfl ?_
  refine r_iconst (v := 1) C dX4_image_12 (by decide) ?_
  refine pf_X4_47 (M' := (wM (sR M 2 a1) 8 0 1)) C dX4_image_13 (Or.inr rfl) rfl ?_
  refine r_iconst (v := 1) C dX4_image_16 (by decide) ?_
  exact r_iret C dX4_image_17 rfl
theorem mX4_image (l : Launch) {Z : Zt} (hZ : Zok 1 Z) (M : Mi) (N : Ml) (b : Int32 × Mi) (hb : fX4_image M = some b) : Ct 1 Z l yX4_image cX4_image 1 (some .int) 1 [.ref (zA Z 8 0)] M N (some (Value.int b.1), b.2, N) :=
  metG (fin := (finX4_image N)) (by decide) (Nat.le_of_ble_eq_true rfl) (fun E _ C => bX4_image C M) hb
theorem dX4_undo_0 : decode cX4_undo 0 = .ok (.aload_n 0, 1) := by decide +kernel
theorem dX4_undo_1 : decode cX4_undo 1 = .ok (.getfield 47, 3) := by decide +kernel
theorem dX4_undo_4 : decode cX4_undo 4 = .ok (.ifCond .ne 9, 3) := by decide +kernel
theorem dX4_undo_7 : decode cX4_undo 7 = .ok (.aload_n 0, 1) := by decide +kernel
theorem dX4_undo_8 : decode cX4_undo 8 = .ok (.iconst 3, 1) := by decide +kernel
theorem dX4_undo_9 : decode cX4_undo 9 = .ok (.invokevirtual 58, 3) := by decide +kernel
theorem dX4_undo_12 : decode cX4_undo 12 = .ok (.ireturn, 1) := by decide +kernel
theorem dX4_undo_13 : decode cX4_undo 13 = .ok (.aload_n 0, 1) := by decide +kernel
theorem dX4_undo_14 : decode cX4_undo 14 = .ok (.getfield 12, 3) := by decide +kernel
theorem dX4_undo_17 : decode cX4_undo 17 = .ok (.aload_n 0, 1) := by decide +kernel
theorem dX4_undo_18 : decode cX4_undo 18 = .ok (.getfield 19, 3) := by decide +kernel
theorem dX4_undo_21 : decode cX4_undo 21 = .ok (.invokevirtual 163, 3) := by decide +kernel
theorem dX4_undo_24 : decode cX4_undo 24 = .ok (.aload_n 0, 1) := by decide +kernel
theorem dX4_undo_25 : decode cX4_undo 25 = .ok (.getfield 12, 3) := by decide +kernel
theorem dX4_undo_28 : decode cX4_undo 28 = .ok (.getfield 272, 3) := by decide +kernel
theorem dX4_undo_31 : decode cX4_undo 31 = .ok (.ireturn, 1) := by decide +kernel
def finX4_undo (N : Ml) : Int32 × Mi → Option Value × Mi × Ml := fun b => (some (Value.int b.1), b.2, N)
noncomputable def fX4_undo   (M : Mi) : Option (Int32 × Mi) := (if (M 8 0) = 0 then (Option.bind (fX4_finding M 3) (fun a3 => (some (a3.1, (a3.2))))) else (Option.bind (fX0_becomes (M 2) (M 0)) (fun a2 => (some ((a2 1), (sR M 0 a2))))))
theorem bX4_undo {Z : Zt} {E : Ec} {N : Ml} (C : Ok 1 Z E cX4_undo 1 RX4 (some .int) 1)    (M : Mi)  : GT Z E 1 (finX4_undo N) 0 [(0, .ref (zA Z 8 0))] [] M N (fX4_undo M) := by
  unfold fX4_undo
  refine r_aload_n C dX4_undo_0 0 0 rfl rfl ?_
  refine gf_X4_47 (v := (M 8 0)) C dX4_undo_1 rfl ?_
  refine r_if_ne (tgt := 13) C dX4_undo_4 (by decide) (fun c1 => ?_) (fun c1 => ?_)
  · refine r_aload_n C dX4_undo_13 0 0 rfl rfl ?_
    refine gf_X4_12 C dX4_undo_14 ?_
    refine r_aload_n C dX4_undo_17 0 0 rfl rfl ?_
    refine gf_X4_19 C dX4_undo_18 ?_
    refine r_bind (fun a2 ha2 => ?_)
    refine r_callV (rest := []) (st2 := []) C (mX0_becomes (eL E) C.z (by decide) (by decide) (by decide) M _ (M 0) a2 ha2).selfW lk_X4_163 (rvI C (by decide)) (by decide) rfl rfl (Nat.le_of_ble_eq_true rfl) dX4_undo_21 rfl ?_
    refine r_aload_n C dX4_undo_24 0 0 rfl rfl ?_
    refine gf_X4_12 C dX4_undo_25 ?_
    refine gf_X4_272 (v := (a2 1)) C (by decide) dX4_undo_28 rfl ?_
    exact r_iret C dX4_undo_31 rfl
  · refine r_aload_n C dX4_undo_7 0 0 rfl rfl ?_
    refine r_iconst (v := 3) C dX4_undo_8 (by decide) ?_
    refine r_bind (fun a3 ha3 => ?_)
    refine r_callV (rest := []) (st2 := [.int a3.1]) C (mX4_finding (eL E) C.z M N 3 a3 ha3) lk_X4_58 (rvX C) (by decide) rfl rfl (Nat.le_of_ble_eq_true rfl) dX4_undo_9 rfl ?_
    exact r_iret C dX4_undo_12 rfl
theorem mX4_undo (l : Launch) {Z : Zt} (hZ : Zok 1 Z) (M : Mi) (N : Ml) (b : Int32 × Mi) (hb : fX4_undo M = some b) : Ct 1 Z l yX4_undo cX4_undo 1 (some .int) 1 [.ref (zA Z 8 0)] M N (some (Value.int b.1), b.2, N) :=
  metG (fin := (finX4_undo N)) (by decide) (Nat.le_of_ble_eq_true rfl) (fun E _ C => bX4_undo C M) hb
theorem dX4_tear_0 : decode cX4_tear 0 = .ok (.aload_n 0, 1) := by decide +kernel
theorem dX4_tear_1 : decode cX4_tear 1 = .ok (.getfield 47, 3) := by decide +kernel
theorem dX4_tear_4 : decode cX4_tear 4 = .ok (.ifCond .eq 7, 3) := by decide +kernel
theorem dX4_tear_7 : decode cX4_tear 7 = .ok (.iconst 1, 1) := by decide +kernel
theorem dX4_tear_8 : decode cX4_tear 8 = .ok (.goto 4, 3) := by decide +kernel
theorem dX4_tear_11 : decode cX4_tear 11 = .ok (.iconst 0, 1) := by decide +kernel
theorem dX4_tear_12 : decode cX4_tear 12 = .ok (.istore_n 1, 1) := by decide +kernel
theorem dX4_tear_13 : decode cX4_tear 13 = .ok (.aload_n 0, 1) := by decide +kernel
theorem dX4_tear_14 : decode cX4_tear 14 = .ok (.iconst 0, 1) := by decide +kernel
theorem dX4_tear_15 : decode cX4_tear 15 = .ok (.putfield 47, 3) := by decide +kernel
theorem dX4_tear_18 : decode cX4_tear 18 = .ok (.iload_n 1, 1) := by decide +kernel
theorem dX4_tear_19 : decode cX4_tear 19 = .ok (.ireturn, 1) := by decide +kernel
def finX4_tear (N : Ml) : Int32 × Mi → Option Value × Mi × Ml := fun b => (some (Value.int b.1), b.2, N)
noncomputable def fX4_tear   (M : Mi) : Option (Int32 × Mi) := (some ((if (M 8 0) = 0 then 0 else 1 : Int32), (wM M 8 0 0)))
theorem bX4_tear {Z : Zt} {E : Ec} {N : Ml} (C : Ok 1 Z E cX4_tear 2 RX4 (some .int) 0)    (M : Mi)  : GT Z E 2 (finX4_tear N) 0 [(0, .ref (zA Z 8 0))] [] M N (fX4_tear M) := by
  unfold fX4_tear
  refine r_aload_n C dX4_tear_0 0 0 rfl rfl ?_
  refine gf_X4_47 (v := (M 8 0)) C dX4_tear_1 rfl ?_
  refine r_sel (tj := 12) (sj := [.int (if (M 8 0) = 0 then 0 else 1 : Int32)]) ?_ (fun k2 => ?_)
  · refine r_istore_n (lv' := [(1, .int (if (M 8 0) = 0 then 0 else 1 : Int32)), (0, .ref (zA Z 8 0))]) C dX4_tear_12 1 rfl (by decide) rfl ?_
    refine r_aload_n C dX4_tear_13 0 1 rfl rfl ?_
    refine r_iconst (v := 0) C dX4_tear_14 (by decide) ?_
    refine pf_X4_47 (M' := (wM M 8 0 0)) C dX4_tear_15 (Or.inl rfl) rfl ?_
    refine r_iload_n C dX4_tear_18 1 0 rfl rfl ?_
    exact r_iret C dX4_tear_19 rfl
  · refine r_same (P := (M 8 0) = 0) ?_
    refine r_if_eq (tgt := 11) C dX4_tear_4 (by decide) (fun c1 => ?_) (fun c1 => ?_)
    · refine r_iconst (v := 0) C dX4_tear_11 (by decide) ?_
      exact r_stk (if_pos c1) k2
    · refine r_iconst (v := 1) C dX4_tear_7 (by decide) ?_
      refine r_goto (tgt := 12) C dX4_tear_8 (by decide) ?_
      exact r_stk (if_neg c1) k2
theorem mX4_tear (l : Launch) {Z : Zt} (hZ : Zok 1 Z) (M : Mi) (N : Ml) (b : Int32 × Mi) (hb : fX4_tear M = some b) : Ct 1 Z l yX4_tear cX4_tear 2 (some .int) 0 [.ref (zA Z 8 0)] M N (some (Value.int b.1), b.2, N) :=
  metG (fin := (finX4_tear N)) (by decide) (Nat.le_of_ble_eq_true rfl) (fun E _ C => bX4_tear C M) hb
theorem dX4_count_0 : decode cX4_count 0 = .ok (.iload_n 1, 1) := by decide +kernel
theorem dX4_count_1 : decode cX4_count 1 = .ok (.tableswitch 66 0 3 #[31, 39, 47, 58], 31) := by decide +kernel
theorem dX4_count_32 : decode cX4_count 32 = .ok (.aload_n 0, 1) := by decide +kernel
theorem dX4_count_33 : decode cX4_count 33 = .ok (.getfield 12, 3) := by decide +kernel
theorem dX4_count_36 : decode cX4_count 36 = .ok (.getfield 272, 3) := by decide +kernel
theorem dX4_count_39 : decode cX4_count 39 = .ok (.ireturn, 1) := by decide +kernel
theorem dX4_count_40 : decode cX4_count 40 = .ok (.aload_n 0, 1) := by decide +kernel
theorem dX4_count_41 : decode cX4_count 41 = .ok (.getfield 32, 3) := by decide +kernel
theorem dX4_count_44 : decode cX4_count 44 = .ok (.getfield 220, 3) := by decide +kernel
theorem dX4_count_47 : decode cX4_count 47 = .ok (.ireturn, 1) := by decide +kernel
theorem dX4_count_48 : decode cX4_count 48 = .ok (.aload_n 0, 1) := by decide +kernel
theorem dX4_count_49 : decode cX4_count 49 = .ok (.getfield 12, 3) := by decide +kernel
theorem dX4_count_52 : decode cX4_count 52 = .ok (.getfield 196, 3) := by decide +kernel
theorem dX4_count_55 : decode cX4_count 55 = .ok (.invokestatic 202, 3) := by decide +kernel
theorem dX4_count_58 : decode cX4_count 58 = .ok (.ireturn, 1) := by decide +kernel
theorem dX4_count_59 : decode cX4_count 59 = .ok (.aload_n 0, 1) := by decide +kernel
theorem dX4_count_60 : decode cX4_count 60 = .ok (.getfield 12, 3) := by decide +kernel
theorem dX4_count_63 : decode cX4_count 63 = .ok (.invokevirtual 275, 3) := by decide +kernel
theorem dX4_count_66 : decode cX4_count 66 = .ok (.ireturn, 1) := by decide +kernel
theorem dX4_count_67 : decode cX4_count 67 = .ok (.aload_n 0, 1) := by decide +kernel
theorem dX4_count_68 : decode cX4_count 68 = .ok (.iconst 0, 1) := by decide +kernel
theorem dX4_count_69 : decode cX4_count 69 = .ok (.invokevirtual 58, 3) := by decide +kernel
theorem dX4_count_72 : decode cX4_count 72 = .ok (.ireturn, 1) := by decide +kernel
def finX4_count (N : Ml) : Int32 × Mi → Option Value × Mi × Ml := fun b => (some (Value.int b.1), b.2, N)
noncomputable def fX4_count   (M : Mi) (x1 : Int32) : Option (Int32 × Mi) := (if x1 = 0 then (some ((M 0 1), M)) else (if x1 = 1 then (some ((M 5 0), M)) else (if x1 = 2 then (some ((fJ6_bitCount_0f7a4 (M 0 2)), M)) else (if x1 = 3 then (Option.bind (fX0_tippedOnes (M 0)) (fun a5 => (some (a5, M)))) else (Option.bind (fX4_finding M 0) (fun a6 => (some (a6.1, (a6.2)))))))))
theorem bX4_count {Z : Zt} {E : Ec} {N : Ml} (C : Ok 1 Z E cX4_count 2 RX4 (some .int) 1)    (M : Mi) (x1 : Int32)  : GT Z E 2 (finX4_count N) 0 [(0, .ref (zA Z 8 0)), (1, .int x1)] [] M N (fX4_count M x1) := by
  unfold fX4_count
  refine r_iload_n C dX4_count_0 1 1 rfl rfl ?_
  refine r_tsw (k := 0) (tgt := 32) C dX4_count_1 (by decide) (by decide) rfl (by decide) (fun c1 => ?_) (fun c1 => ?_)
  · refine r_aload_n C dX4_count_32 0 0 rfl rfl ?_
    refine gf_X4_12 C dX4_count_33 ?_
    refine gf_X4_272 (v := (M 0 1)) C (by decide) dX4_count_36 rfl ?_
    exact r_iret C dX4_count_39 rfl
  · skip
    refine r_tsw (k := 1) (tgt := 40) C dX4_count_1 (by decide) (by decide) rfl (by decide) (fun c2 => ?_) (fun c2 => ?_)
    · refine r_aload_n C dX4_count_40 0 0 rfl rfl ?_
      refine gf_X4_32 C dX4_count_41 ?_
      refine gf_X4_220 (v := (M 5 0)) C dX4_count_44 rfl ?_
      exact r_iret C dX4_count_47 rfl
    · skip
      refine r_tsw (k := 2) (tgt := 48) C dX4_count_1 (by decide) (by decide) rfl (by decide) (fun c3 => ?_) (fun c3 => ?_)
      · refine r_aload_n C dX4_count_48 0 0 rfl rfl ?_
        refine gf_X4_12 C dX4_count_49 ?_
        refine gf_X4_196 (v := (M 0 2)) C (by decide) dX4_count_52 rfl ?_
        refine r_callS (rest := []) (st2 := [.int (fJ6_bitCount_0f7a4 (M 0 2))]) C (mJ6_bitCount_0f7a4 (eL E) C.z _ _ (M 0 2)) lk_X4_202 (by decide) rfl rfl (Nat.le_of_ble_eq_true rfl) dX4_count_55 rfl ?_
        exact r_iret C dX4_count_58 rfl
      · skip
        refine r_tsw (k := 3) (tgt := 59) C dX4_count_1 (by decide) (by decide) rfl (by decide) (fun c4 => ?_) (fun c4 => ?_)
        · refine r_aload_n C dX4_count_59 0 0 rfl rfl ?_
          refine gf_X4_12 C dX4_count_60 ?_
          refine r_bind (fun a5 ha5 => ?_)
          refine r_callV (rest := []) (st2 := [.int a5]) C (mX0_tippedOnes (eL E) C.z (by decide) M _ (M 0) a5 ha5).selfR lk_X4_275 (rvI C (by decide)) (by decide) rfl rfl (Nat.le_of_ble_eq_true rfl) dX4_count_63 rfl ?_
          exact r_iret C dX4_count_66 rfl
        · skip
          refine r_tswd (tgt := 67) C dX4_count_1 (sw_out (lo := 0) (hi := 3) (n := 4) x1 [0, 1, 2, 3] (by decide) rfl (List.forall_mem_cons.mpr ⟨c1, List.forall_mem_cons.mpr ⟨c2, List.forall_mem_cons.mpr ⟨c3, List.forall_mem_cons.mpr ⟨c4, fun _ h => absurd h List.not_mem_nil⟩⟩⟩⟩)) (by decide) ?_
          refine r_aload_n C dX4_count_67 0 0 rfl rfl ?_
          refine r_iconst (v := 0) C dX4_count_68 (by decide) ?_
          refine r_bind (fun a6 ha6 => ?_)
          refine r_callV (rest := []) (st2 := [.int a6.1]) C (mX4_finding (eL E) C.z M N 0 a6 ha6) lk_X4_58 (rvX C) (by decide) rfl rfl (Nat.le_of_ble_eq_true rfl) dX4_count_69 rfl ?_
          exact r_iret C dX4_count_72 rfl
theorem mX4_count (l : Launch) {Z : Zt} (hZ : Zok 1 Z) (M : Mi) (N : Ml) (x1 : Int32) (b : Int32 × Mi) (hb : fX4_count M x1 = some b) : Ct 1 Z l yX4_count cX4_count 2 (some .int) 1 [.ref (zA Z 8 0), .int x1] M N (some (Value.int b.1), b.2, N) :=
  metG (fin := (finX4_count N)) (by decide) (Nat.le_of_ble_eq_true rfl) (fun E _ C => bX4_count C M x1) hb
theorem dX4_status_0 : decode cX4_status 0 = .ok (.iload_n 1, 1) := by decide +kernel
theorem dX4_status_1 : decode cX4_status 1 = .ok (.iconst (-1), 1) := by decide +kernel
theorem dX4_status_2 : decode cX4_status 2 = .ok (.if_icmp .ne 30, 3) := by decide +kernel
theorem dX4_status_5 : decode cX4_status 5 = .ok (.iconst 0, 1) := by decide +kernel
theorem dX4_status_6 : decode cX4_status 6 = .ok (.istore_n 2, 1) := by decide +kernel
theorem dX4_status_7 : decode cX4_status 7 = .ok (.iconst 0, 1) := by decide +kernel
theorem dX4_status_8 : decode cX4_status 8 = .ok (.istore_n 3, 1) := by decide +kernel
theorem dX4_status_9 : decode cX4_status 9 = .ok (.iload_n 3, 1) := by decide +kernel
theorem dX4_status_10 : decode cX4_status 10 = .ok (.bipush 7, 2) := by decide +kernel
theorem dX4_status_12 : decode cX4_status 12 = .ok (.if_icmp .ge 18, 3) := by decide +kernel
theorem dX4_status_15 : decode cX4_status 15 = .ok (.iload_n 2, 1) := by decide +kernel
theorem dX4_status_16 : decode cX4_status 16 = .ok (.aload_n 0, 1) := by decide +kernel
theorem dX4_status_17 : decode cX4_status 17 = .ok (.getfield 43, 3) := by decide +kernel
theorem dX4_status_20 : decode cX4_status 20 = .ok (.iload_n 3, 1) := by decide +kernel
theorem dX4_status_21 : decode cX4_status 21 = .ok (.iaload, 1) := by decide +kernel
theorem dX4_status_22 : decode cX4_status 22 = .ok (.iadd, 1) := by decide +kernel
theorem dX4_status_23 : decode cX4_status 23 = .ok (.istore_n 2, 1) := by decide +kernel
theorem dX4_status_24 : decode cX4_status 24 = .ok (.iinc 3 1, 3) := by decide +kernel
theorem dX4_status_27 : decode cX4_status 27 = .ok (.goto (-18), 3) := by decide +kernel
theorem dX4_status_30 : decode cX4_status 30 = .ok (.iload_n 2, 1) := by decide +kernel
theorem dX4_status_31 : decode cX4_status 31 = .ok (.ireturn, 1) := by decide +kernel
theorem dX4_status_32 : decode cX4_status 32 = .ok (.iload_n 1, 1) := by decide +kernel
theorem dX4_status_33 : decode cX4_status 33 = .ok (.bipush 7, 2) := by decide +kernel
theorem dX4_status_35 : decode cX4_status 35 = .ok (.invokestatic 69, 3) := by decide +kernel
theorem dX4_status_38 : decode cX4_status 38 = .ok (.ifCond .eq 12, 3) := by decide +kernel
theorem dX4_status_41 : decode cX4_status 41 = .ok (.aload_n 0, 1) := by decide +kernel
theorem dX4_status_42 : decode cX4_status 42 = .ok (.getfield 43, 3) := by decide +kernel
theorem dX4_status_45 : decode cX4_status 45 = .ok (.iload_n 1, 1) := by decide +kernel
theorem dX4_status_46 : decode cX4_status 46 = .ok (.iaload, 1) := by decide +kernel
theorem dX4_status_47 : decode cX4_status 47 = .ok (.goto 8, 3) := by decide +kernel
theorem dX4_status_50 : decode cX4_status 50 = .ok (.aload_n 0, 1) := by decide +kernel
theorem dX4_status_51 : decode cX4_status 51 = .ok (.iconst 0, 1) := by decide +kernel
theorem dX4_status_52 : decode cX4_status 52 = .ok (.invokevirtual 58, 3) := by decide +kernel
theorem dX4_status_55 : decode cX4_status 55 = .ok (.ireturn, 1) := by decide +kernel
def finX4_status (N : Ml) : Int32 × Mi → Option Value × Mi × Ml := fun b => (some (Value.int b.1), b.2, N)
noncomputable def fX4_status_9   : Nat → Mi → Int32 → Int32 → Option (Int32 × Mi)
  | 0 => fun _ _ _ => none
  | n + 1 => fun M x2 x3 => (if 7 ≤ x3 then (some (x2, M)) else (if inb x3 7 then ((fX4_status_9 n) M (x2 + (M 7 (ix x3))) (x3 + 1)) else none))
theorem bX4_status_9 {Z : Zt} {E : Ec} {N : Ml} (C : Ok 1 Z E cX4_status 4 RX4 (some .int) 1)    : ∀ (n : Nat) (M : Mi) (x2 : Int32) (x3 : Int32), GT Z E 4 (finX4_status N) 9 [(0, .ref (zA Z 8 0)), (2, .int x2), (3, .int x3)] [] M N (fX4_status_9 n M x2 x3) := by
  intro n
  induction n with
  | zero => intro M x2 x3; exact r_none
  | succ n ih =>
    intro M x2 x3
    rw [fX4_status_9]
    refine r_iload_n C dX4_status_9 3 2 rfl rfl ?_
    refine r_bipush (v := 7) C dX4_status_10 (by decide) ?_
    refine r_ic_ge (tgt := 30) C dX4_status_12 (by decide) (fun c5 => ?_) (fun c5 => ?_)
    · refine r_iload_n C dX4_status_30 2 1 rfl rfl ?_
      exact r_iret C dX4_status_31 rfl
    · refine r_iload_n C dX4_status_15 2 1 rfl rfl ?_
      refine r_aload_n C dX4_status_16 0 0 rfl rfl ?_
      refine gf_X4_43 C dX4_status_17 ?_
      refine r_iload_n C dX4_status_20 3 2 rfl rfl ?_
      refine r_guard (fun h6 => ?_)
      refine ald_F (v := (M 7 (ix x3))) C h6 rfl dX4_status_21 ?_
      refine r_iadd C dX4_status_22 ?_
      refine r_istore_n (lv' := [(2, .int (x2 + (M 7 (ix x3)))), (0, .ref (zA Z 8 0)), (3, .int x3)]) C dX4_status_23 2 rfl (by decide) rfl ?_
      refine r_iinc (v := (x3 + 1)) (lv' := [(3, .int (x3 + 1)), (2, .int (x2 + (M 7 (ix x3)))), (0, .ref (zA Z 8 0))]) C dX4_status_24 2 rfl rfl (by decide) rfl ?_
      refine r_goto (tgt := 9) C dX4_status_27 (by decide) ?_
      refine r_lv [2, 1, 0] (lv' := [(0, .ref (zA Z 8 0)), (2, .int (x2 + (M 7 (ix x3)))), (3, .int (x3 + 1))]) rfl ?_
      exact ih M (x2 + (M 7 (ix x3))) (x3 + 1)
noncomputable def fX4_status   (M : Mi) (x1 : Int32) : Option (Int32 × Mi) := (if x1 = (-1) then (fX4_status_9 fu M 0 0) else (if (fX4_isBelow x1 7) = 0 then (Option.bind (fX4_finding M 0) (fun a3 => (some (a3.1, (a3.2))))) else (if inb x1 7 then (some ((M 7 (ix x1)), M)) else none)))
theorem bX4_status {Z : Zt} {E : Ec} {N : Ml} (C : Ok 1 Z E cX4_status 4 RX4 (some .int) 1)    (M : Mi) (x1 : Int32)  : GT Z E 4 (finX4_status N) 0 [(0, .ref (zA Z 8 0)), (1, .int x1)] [] M N (fX4_status M x1) := by
  unfold fX4_status
  refine r_iload_n C dX4_status_0 1 1 rfl rfl ?_
  refine r_iconst (v := (-1)) C dX4_status_1 (by decide) ?_
  refine r_ic_ne (tgt := 32) C dX4_status_2 (by decide) (fun c1 => ?_) (fun c1 => ?_)
  · refine r_iload_n C dX4_status_32 1 1 rfl rfl ?_
    refine r_bipush (v := 7) C dX4_status_33 (by decide) ?_
    refine r_callS (rest := []) (st2 := [.int (fX4_isBelow x1 7)]) C (mX4_isBelow (eL E) C.z _ _ x1 7) lk_X4_69 (by decide) rfl rfl (Nat.le_of_ble_eq_true rfl) dX4_status_35 rfl ?_
    refine r_if_eq (tgt := 50) C dX4_status_38 (by decide) (fun c2 => ?_) (fun c2 => ?_)
    · refine r_aload_n C dX4_status_50 0 0 rfl rfl ?_
      refine r_iconst (v := 0) C dX4_status_51 (by decide) ?_
      refine r_bind (fun a3 ha3 => ?_)
      refine r_callV (rest := []) (st2 := [.int a3.1]) C (mX4_finding (eL E) C.z M N 0 a3 ha3) lk_X4_58 (rvX C) (by decide) rfl rfl (Nat.le_of_ble_eq_true rfl) dX4_status_52 rfl ?_
      exact r_iret C dX4_status_55 rfl
    · refine r_aload_n C dX4_status_41 0 0 rfl rfl ?_
      refine gf_X4_43 C dX4_status_42 ?_
      refine r_iload_n C dX4_status_45 1 1 rfl rfl ?_
      refine r_guard (fun h4 => ?_)
      refine ald_F (v := (M 7 (ix x1))) C h4 rfl dX4_status_46 ?_
      refine r_goto (tgt := 55) C dX4_status_47 (by decide) ?_
      exact r_iret C dX4_status_55 rfl
  · refine r_iconst (v := 0) C dX4_status_5 (by decide) ?_
    refine r_istore_n (lv' := [(2, .int 0), (0, .ref (zA Z 8 0)), (1, .int x1)]) C dX4_status_6 2 rfl (by decide) rfl ?_
    refine r_iconst (v := 0) C dX4_status_7 (by decide) ?_
    refine r_istore_n (lv' := [(3, .int 0), (2, .int 0), (0, .ref (zA Z 8 0)), (1, .int x1)]) C dX4_status_8 3 rfl (by decide) rfl ?_
    refine r_lv [2, 1, 0] (lv' := [(0, .ref (zA Z 8 0)), (2, .int 0), (3, .int 0)]) rfl ?_
    exact bX4_status_9 C fu M 0 0
theorem mX4_status (l : Launch) {Z : Zt} (hZ : Zok 1 Z) (M : Mi) (N : Ml) (x1 : Int32) (b : Int32 × Mi) (hb : fX4_status M x1 = some b) : Ct 1 Z l yX4_status cX4_status 4 (some .int) 1 [.ref (zA Z 8 0), .int x1] M N (some (Value.int b.1), b.2, N) :=
  metG (fin := (finX4_status N)) (by decide) (Nat.le_of_ble_eq_true rfl) (fun E _ C => bX4_status C M x1) hb
theorem dX5_in_0 : decode cX5_in 0 = .ok (.lload_n 0, 1) := by decide +kernel
theorem dX5_in_1 : decode cX5_in 1 = .ok (.lload_n 2, 1) := by decide +kernel
theorem dX5_in_2 : decode cX5_in 2 = .ok (.lcmp, 1) := by decide +kernel
theorem dX5_in_3 : decode cX5_in 3 = .ok (.ifCond .lt 14, 3) := by decide +kernel
theorem dX5_in_6 : decode cX5_in 6 = .ok (.lload_n 0, 1) := by decide +kernel
theorem dX5_in_7 : decode cX5_in 7 = .ok (.lload 4, 2) := by decide +kernel
theorem dX5_in_9 : decode cX5_in 9 = .ok (.lcmp, 1) := by decide +kernel
theorem dX5_in_10 : decode cX5_in 10 = .ok (.ifCond .gt 7, 3) := by decide +kernel
theorem dX5_in_13 : decode cX5_in 13 = .ok (.iconst 1, 1) := by decide +kernel
theorem dX5_in_14 : decode cX5_in 14 = .ok (.goto 4, 3) := by decide +kernel
theorem dX5_in_17 : decode cX5_in 17 = .ok (.iconst 0, 1) := by decide +kernel
theorem dX5_in_18 : decode cX5_in 18 = .ok (.ireturn, 1) := by decide +kernel
def finX5_in (M : Mi) (N : Ml) : Int32 → Option Value × Mi × Ml := fun b => (some (Value.int b), M, N)
noncomputable def fX5_in   (x0 : Int64) (x2 : Int64) (x4 : Int64) : Int32 := (if x0 < x2 then 0 else (if x4 < x0 then 0 else 1))
theorem bX5_in {Z : Zt} {E : Ec} {M : Mi} {N : Ml} (C : Ok 2 Z E cX5_in 6 RX5 (some .boolean) 0)    (x0 : Int64) (x2 : Int64) (x4 : Int64)  : GT Z E 6 (finX5_in M N) 0 [(0, .long x0), (2, .long x2), (4, .long x4)] [] M N (some (fX5_in x0 x2 x4)) := by
  unfold fX5_in
  refine r_lload_n C dX5_in_0 0 0 rfl rfl ?_
  refine r_lload_n C dX5_in_1 2 1 rfl rfl ?_
  refine r_st ?_
  refine r_lc_lt (tgt := 17) C dX5_in_2 dX5_in_3 (by decide) (fun c1 => ?_) (fun c1 => ?_)
  · refine r_iconst (v := 0) C dX5_in_17 (by decide) ?_
    exact r_zret C dX5_in_18 (Or.inl rfl) rfl
  · refine r_lload_n C dX5_in_6 0 0 rfl rfl ?_
    refine r_lload C dX5_in_7 2 rfl ?_
    refine r_st ?_
    refine r_lc_gt (tgt := 17) C dX5_in_9 dX5_in_10 (by decide) (fun c2 => ?_) (fun c2 => ?_)
    · refine r_iconst (v := 0) C dX5_in_17 (by decide) ?_
      exact r_zret C dX5_in_18 (Or.inl rfl) rfl
    · refine r_iconst (v := 1) C dX5_in_13 (by decide) ?_
      refine r_goto (tgt := 18) C dX5_in_14 (by decide) ?_
      exact r_zret C dX5_in_18 (Or.inr rfl) rfl
theorem zbX5_in (x0 : Int64) (x2 : Int64) (x4 : Int64) : fX5_in x0 x2 x4 = 0 ∨ fX5_in x0 x2 x4 = 1 := by
  unfold fX5_in; (repeat' split) <;> first | exact Or.inl rfl | exact Or.inr rfl
theorem mX5_in (l : Launch) {Z : Zt} (hZ : Zok 2 Z) (M : Mi) (N : Ml) (x0 : Int64) (x2 : Int64) (x4 : Int64) : Ct 2 Z l yX5_in cX5_in 6 (some .boolean) 0 [.long x0, .long x2, .long x4] M N (some (Value.int (fX5_in x0 x2 x4)), M, N) :=
  metG (fin := (finX5_in M N)) (by decide) (Nat.le_of_ble_eq_true rfl) (fun E _ C => bX5_in C x0 x2 x4) rfl
theorem dX5_finds_0 : decode cX5_finds 0 = .ok (.aload_n 0, 1) := by decide +kernel
theorem dX5_finds_1 : decode cX5_finds 1 = .ok (.getfield 22, 3) := by decide +kernel
theorem dX5_finds_4 : decode cX5_finds 4 = .ok (.ldc 41, 2) := by decide +kernel
theorem dX5_finds_6 : decode cX5_finds 6 = .ok (.iload_n 1, 1) := by decide +kernel
theorem dX5_finds_7 : decode cX5_finds 7 = .ok (.isub, 1) := by decide +kernel
theorem dX5_finds_8 : decode cX5_finds 8 = .ok (.dup2, 1) := by decide +kernel
theorem dX5_finds_9 : decode cX5_finds 9 = .ok (.iaload, 1) := by decide +kernel
theorem dX5_finds_10 : decode cX5_finds 10 = .ok (.iconst 1, 1) := by decide +kernel
theorem dX5_finds_11 : decode cX5_finds 11 = .ok (.iadd, 1) := by decide +kernel
theorem dX5_finds_12 : decode cX5_finds 12 = .ok (.iastore, 1) := by decide +kernel
theorem dX5_finds_13 : decode cX5_finds 13 = .ok (.iload_n 1, 1) := by decide +kernel
theorem dX5_finds_14 : decode cX5_finds 14 = .ok (.ireturn, 1) := by decide +kernel
def finX5_finds (N : Ml) : Int32 × Mi → Option Value × Mi × Ml := fun b => (some (Value.int b.1), b.2, N)
noncomputable def fX5_finds   (M : Mi) (x1 : Int32) : Option (Int32 × Mi) := (if inb ((-1000000001) - x1) 7 then (some (x1, (wM M 4 (ix ((-1000000001) - x1)) ((M 4 (ix ((-1000000001) - x1))) + 1)))) else none)
theorem bX5_finds {Z : Zt} {E : Ec} {N : Ml} (C : Ok 2 Z E cX5_finds 2 RX5 (some .int) 0)    (M : Mi) (x1 : Int32)  : GT Z E 2 (finX5_finds N) 0 [(0, .ref (zA Z 6 0)), (1, .int x1)] [] M N (fX5_finds M x1) := by
  unfold fX5_finds
  refine r_aload_n C dX5_finds_0 0 0 rfl rfl ?_
  refine gf_X5_22 C dX5_finds_1 ?_
  refine r_ldc (v := (-1000000001)) C dX5_finds_4 wd_859 ?_
  refine r_iload_n C dX5_finds_6 1 1 rfl rfl ?_
  refine r_isub C dX5_finds_7 ?_
  refine r_dup2 C dX5_finds_8 rfl rfl ?_
  refine r_guard (fun h1 => ?_)
  refine ald_M (v := (M 4 (ix ((-1000000001) - x1)))) C mI_4 h1 rfl dX5_finds_9 ?_
  refine r_iconst (v := 1) C dX5_finds_10 (by decide) ?_
  refine r_iadd C dX5_finds_11 ?_
  refine ast_M (M' := (wM M 4 (ix ((-1000000001) - x1)) ((M 4 (ix ((-1000000001) - x1))) + 1))) C mI_4 h1 rfl dX5_finds_12 ?_
  refine r_iload_n C dX5_finds_13 1 1 rfl rfl ?_
  exact r_iret C dX5_finds_14 rfl
theorem mX5_finds (l : Launch) {Z : Zt} (hZ : Zok 2 Z) (M : Mi) (N : Ml) (x1 : Int32) (b : Int32 × Mi) (hb : fX5_finds M x1 = some b) : Ct 2 Z l yX5_finds cX5_finds 2 (some .int) 0 [.ref (zA Z 6 0), .int x1] M N (some (Value.int b.1), b.2, N) :=
  metG (fin := (finX5_finds N)) (by decide) (Nat.le_of_ble_eq_true rfl) (fun E _ C => bX5_finds C M x1) hb
theorem dX5_saves_0 : decode cX5_saves 0 = .ok (.iconst 0, 1) := by decide +kernel
theorem dX5_saves_1 : decode cX5_saves 1 = .ok (.istore_n 1, 1) := by decide +kernel
theorem dX5_saves_2 : decode cX5_saves 2 = .ok (.iload_n 1, 1) := by decide +kernel
theorem dX5_saves_3 : decode cX5_saves 3 = .ok (.bipush 39, 2) := by decide +kernel
theorem dX5_saves_5 : decode cX5_saves 5 = .ok (.if_icmp .ge 21, 3) := by decide +kernel
theorem dX5_saves_8 : decode cX5_saves 8 = .ok (.aload_n 0, 1) := by decide +kernel
theorem dX5_saves_9 : decode cX5_saves 9 = .ok (.getfield 16, 3) := by decide +kernel
theorem dX5_saves_12 : decode cX5_saves 12 = .ok (.iload_n 1, 1) := by decide +kernel
theorem dX5_saves_13 : decode cX5_saves 13 = .ok (.aload_n 0, 1) := by decide +kernel
theorem dX5_saves_14 : decode cX5_saves 14 = .ok (.getfield 7, 3) := by decide +kernel
theorem dX5_saves_17 : decode cX5_saves 17 = .ok (.iload_n 1, 1) := by decide +kernel
theorem dX5_saves_18 : decode cX5_saves 18 = .ok (.iaload, 1) := by decide +kernel
theorem dX5_saves_19 : decode cX5_saves 19 = .ok (.iastore, 1) := by decide +kernel
theorem dX5_saves_20 : decode cX5_saves 20 = .ok (.iinc 1 1, 3) := by decide +kernel
theorem dX5_saves_23 : decode cX5_saves 23 = .ok (.goto (-21), 3) := by decide +kernel
theorem dX5_saves_26 : decode cX5_saves 26 = .ok (.return_, 1) := by decide +kernel
def finX5_saves (N : Ml) : Mi → Option Value × Mi × Ml := fun b => (none, b, N)
noncomputable def fX5_saves_2   : Nat → Mi → Int32 → Option (Mi)
  | 0 => fun _ _ => none
  | n + 1 => fun M x1 => (if 39 ≤ x1 then (some M) else (if inb x1 39 then ((fX5_saves_2 n) (wM M 2 (ix x1) (M 0 (ix x1))) (x1 + 1)) else none))
theorem bX5_saves_2 {Z : Zt} {E : Ec} {N : Ml} (C : Ok 2 Z E cX5_saves 2 RX5 none 0)    : ∀ (n : Nat) (M : Mi) (x1 : Int32), GT Z E 2 (finX5_saves N) 2 [(0, .ref (zA Z 6 0)), (1, .int x1)] [] M N (fX5_saves_2 n M x1) := by
  intro n
  induction n with
  | zero => intro M x1; exact r_none
  | succ n ih =>
    intro M x1
    rw [fX5_saves_2]
    refine r_iload_n C dX5_saves_2 1 1 rfl rfl ?_
    refine r_bipush (v := 39) C dX5_saves_3 (by decide) ?_
    refine r_ic_ge (tgt := 26) C dX5_saves_5 (by decide) (fun c1 => ?_) (fun c1 => ?_)
    · exact r_vret C dX5_saves_26 rfl
    · refine r_aload_n C dX5_saves_8 0 0 rfl rfl ?_
      refine gf_X5_16 C dX5_saves_9 ?_
      refine r_iload_n C dX5_saves_12 1 1 rfl rfl ?_
      refine r_aload_n C dX5_saves_13 0 0 rfl rfl ?_
      refine gf_X5_7 C dX5_saves_14 ?_
      refine r_iload_n C dX5_saves_17 1 1 rfl rfl ?_
      refine r_guard (fun h2 => ?_)
      refine ald_M (v := (M 0 (ix x1))) C mI_0 h2 rfl dX5_saves_18 ?_
      refine ast_M (M' := (wM M 2 (ix x1) (M 0 (ix x1)))) C mI_2 h2 rfl dX5_saves_19 ?_
      refine r_iinc (v := (x1 + 1)) (lv' := [(1, .int (x1 + 1)), (0, .ref (zA Z 6 0))]) C dX5_saves_20 1 rfl rfl (by decide) rfl ?_
      refine r_goto (tgt := 2) C dX5_saves_23 (by decide) ?_
      refine r_lv [1, 0] (lv' := [(0, .ref (zA Z 6 0)), (1, .int (x1 + 1))]) rfl ?_
      exact ih (wM M 2 (ix x1) (M 0 (ix x1))) (x1 + 1)
noncomputable def fX5_saves   (M : Mi) : Option (Mi) := (fX5_saves_2 fu M 0)
theorem bX5_saves {Z : Zt} {E : Ec} {N : Ml} (C : Ok 2 Z E cX5_saves 2 RX5 none 0)    (M : Mi)  : GT Z E 2 (finX5_saves N) 0 [(0, .ref (zA Z 6 0))] [] M N (fX5_saves M) := by
  unfold fX5_saves
  refine r_iconst (v := 0) C dX5_saves_0 (by decide) ?_
  refine r_istore_n (lv' := [(1, .int 0), (0, .ref (zA Z 6 0))]) C dX5_saves_1 1 rfl (by decide) rfl ?_
  refine r_lv [1, 0] (lv' := [(0, .ref (zA Z 6 0)), (1, .int 0)]) rfl ?_
  exact bX5_saves_2 C fu M 0
theorem mX5_saves (l : Launch) {Z : Zt} (hZ : Zok 2 Z) (M : Mi) (N : Ml) (b : Mi) (hb : fX5_saves M = some b) : Ct 2 Z l yX5_saves cX5_saves 2 none 0 [.ref (zA Z 6 0)] M N (none, b, N) :=
  metG (fin := (finX5_saves N)) (by decide) (Nat.le_of_ble_eq_true rfl) (fun E _ C => bX5_saves C M) hb
theorem dX5_putsBack_0 : decode cX5_putsBack 0 = .ok (.iconst 0, 1) := by decide +kernel
theorem dX5_putsBack_1 : decode cX5_putsBack 1 = .ok (.istore_n 1, 1) := by decide +kernel
theorem dX5_putsBack_2 : decode cX5_putsBack 2 = .ok (.iload_n 1, 1) := by decide +kernel
theorem dX5_putsBack_3 : decode cX5_putsBack 3 = .ok (.bipush 39, 2) := by decide +kernel
theorem dX5_putsBack_5 : decode cX5_putsBack 5 = .ok (.if_icmp .ge 21, 3) := by decide +kernel
theorem dX5_putsBack_8 : decode cX5_putsBack 8 = .ok (.aload_n 0, 1) := by decide +kernel
theorem dX5_putsBack_9 : decode cX5_putsBack 9 = .ok (.getfield 7, 3) := by decide +kernel
theorem dX5_putsBack_12 : decode cX5_putsBack 12 = .ok (.iload_n 1, 1) := by decide +kernel
theorem dX5_putsBack_13 : decode cX5_putsBack 13 = .ok (.aload_n 0, 1) := by decide +kernel
theorem dX5_putsBack_14 : decode cX5_putsBack 14 = .ok (.getfield 16, 3) := by decide +kernel
theorem dX5_putsBack_17 : decode cX5_putsBack 17 = .ok (.iload_n 1, 1) := by decide +kernel
theorem dX5_putsBack_18 : decode cX5_putsBack 18 = .ok (.iaload, 1) := by decide +kernel
theorem dX5_putsBack_19 : decode cX5_putsBack 19 = .ok (.iastore, 1) := by decide +kernel
theorem dX5_putsBack_20 : decode cX5_putsBack 20 = .ok (.iinc 1 1, 3) := by decide +kernel
theorem dX5_putsBack_23 : decode cX5_putsBack 23 = .ok (.goto (-21), 3) := by decide +kernel
theorem dX5_putsBack_26 : decode cX5_putsBack 26 = .ok (.return_, 1) := by decide +kernel
def finX5_putsBack (N : Ml) : Mi → Option Value × Mi × Ml := fun b => (none, b, N)
noncomputable def fX5_putsBack_2   : Nat → Mi → Int32 → Option (Mi)
  | 0 => fun _ _ => none
  | n + 1 => fun M x1 => (if 39 ≤ x1 then (some M) else (if inb x1 39 then ((fX5_putsBack_2 n) (wM M 0 (ix x1) (M 2 (ix x1))) (x1 + 1)) else none))
theorem bX5_putsBack_2 {Z : Zt} {E : Ec} {N : Ml} (C : Ok 2 Z E cX5_putsBack 2 RX5 none 0)    : ∀ (n : Nat) (M : Mi) (x1 : Int32), GT Z E 2 (finX5_putsBack N) 2 [(0, .ref (zA Z 6 0)), (1, .int x1)] [] M N (fX5_putsBack_2 n M x1) := by
  intro n
  induction n with
  | zero => intro M x1; exact r_none
  | succ n ih =>
    intro M x1
    rw [fX5_putsBack_2]
    refine r_iload_n C dX5_putsBack_2 1 1 rfl rfl ?_
    refine r_bipush (v := 39) C dX5_putsBack_3 (by decide) ?_
    refine r_ic_ge (tgt := 26) C dX5_putsBack_5 (by decide) (fun c1 => ?_) (fun c1 => ?_)
    · exact r_vret C dX5_putsBack_26 rfl
    · refine r_aload_n C dX5_putsBack_8 0 0 rfl rfl ?_
      refine gf_X5_7 C dX5_putsBack_9 ?_
      refine r_iload_n C dX5_putsBack_12 1 1 rfl rfl ?_
      refine r_aload_n C dX5_putsBack_13 0 0 rfl rfl ?_
      refine gf_X5_16 C dX5_putsBack_14 ?_
      refine r_iload_n C dX5_putsBack_17 1 1 rfl rfl ?_
      refine r_guard (fun h2 => ?_)
      refine ald_M (v := (M 2 (ix x1))) C mI_2 h2 rfl dX5_putsBack_18 ?_
      refine ast_M (M' := (wM M 0 (ix x1) (M 2 (ix x1)))) C mI_0 h2 rfl dX5_putsBack_19 ?_
      refine r_iinc (v := (x1 + 1)) (lv' := [(1, .int (x1 + 1)), (0, .ref (zA Z 6 0))]) C dX5_putsBack_20 1 rfl rfl (by decide) rfl ?_
      refine r_goto (tgt := 2) C dX5_putsBack_23 (by decide) ?_
      refine r_lv [1, 0] (lv' := [(0, .ref (zA Z 6 0)), (1, .int (x1 + 1))]) rfl ?_
      exact ih (wM M 0 (ix x1) (M 2 (ix x1))) (x1 + 1)
noncomputable def fX5_putsBack   (M : Mi) : Option (Mi) := (fX5_putsBack_2 fu M 0)
theorem bX5_putsBack {Z : Zt} {E : Ec} {N : Ml} (C : Ok 2 Z E cX5_putsBack 2 RX5 none 0)    (M : Mi)  : GT Z E 2 (finX5_putsBack N) 0 [(0, .ref (zA Z 6 0))] [] M N (fX5_putsBack M) := by
  unfold fX5_putsBack
  refine r_iconst (v := 0) C dX5_putsBack_0 (by decide) ?_
  refine r_istore_n (lv' := [(1, .int 0), (0, .ref (zA Z 6 0))]) C dX5_putsBack_1 1 rfl (by decide) rfl ?_
  refine r_lv [1, 0] (lv' := [(0, .ref (zA Z 6 0)), (1, .int 0)]) rfl ?_
  exact bX5_putsBack_2 C fu M 0
theorem mX5_putsBack (l : Launch) {Z : Zt} (hZ : Zok 2 Z) (M : Mi) (N : Ml) (b : Mi) (hb : fX5_putsBack M = some b) : Ct 2 Z l yX5_putsBack cX5_putsBack 2 none 0 [.ref (zA Z 6 0)] M N (none, b, N) :=
  metG (fin := (finX5_putsBack N)) (by decide) (Nat.le_of_ble_eq_true rfl) (fun E _ C => bX5_putsBack C M) hb
theorem dX5_laysAside_0 : decode cX5_laysAside 0 = .ok (.iconst 0, 1) := by decide +kernel
theorem dX5_laysAside_1 : decode cX5_laysAside 1 = .ok (.istore_n 1, 1) := by decide +kernel
theorem dX5_laysAside_2 : decode cX5_laysAside 2 = .ok (.iload_n 1, 1) := by decide +kernel
theorem dX5_laysAside_3 : decode cX5_laysAside 3 = .ok (.bipush 39, 2) := by decide +kernel
theorem dX5_laysAside_5 : decode cX5_laysAside 5 = .ok (.if_icmp .ge 21, 3) := by decide +kernel
theorem dX5_laysAside_8 : decode cX5_laysAside 8 = .ok (.aload_n 0, 1) := by decide +kernel
theorem dX5_laysAside_9 : decode cX5_laysAside 9 = .ok (.getfield 19, 3) := by decide +kernel
theorem dX5_laysAside_12 : decode cX5_laysAside 12 = .ok (.iload_n 1, 1) := by decide +kernel
theorem dX5_laysAside_13 : decode cX5_laysAside 13 = .ok (.aload_n 0, 1) := by decide +kernel
theorem dX5_laysAside_14 : decode cX5_laysAside 14 = .ok (.getfield 7, 3) := by decide +kernel
theorem dX5_laysAside_17 : decode cX5_laysAside 17 = .ok (.iload_n 1, 1) := by decide +kernel
theorem dX5_laysAside_18 : decode cX5_laysAside 18 = .ok (.iaload, 1) := by decide +kernel
theorem dX5_laysAside_19 : decode cX5_laysAside 19 = .ok (.iastore, 1) := by decide +kernel
theorem dX5_laysAside_20 : decode cX5_laysAside 20 = .ok (.iinc 1 1, 3) := by decide +kernel
theorem dX5_laysAside_23 : decode cX5_laysAside 23 = .ok (.goto (-21), 3) := by decide +kernel
theorem dX5_laysAside_26 : decode cX5_laysAside 26 = .ok (.return_, 1) := by decide +kernel
def finX5_laysAside (N : Ml) : Mi → Option Value × Mi × Ml := fun b => (none, b, N)
noncomputable def fX5_laysAside_2   : Nat → Mi → Int32 → Option (Mi)
  | 0 => fun _ _ => none
  | n + 1 => fun M x1 => (if 39 ≤ x1 then (some M) else (if inb x1 39 then ((fX5_laysAside_2 n) (wM M 3 (ix x1) (M 0 (ix x1))) (x1 + 1)) else none))
theorem bX5_laysAside_2 {Z : Zt} {E : Ec} {N : Ml} (C : Ok 2 Z E cX5_laysAside 2 RX5 none 0)    : ∀ (n : Nat) (M : Mi) (x1 : Int32), GT Z E 2 (finX5_laysAside N) 2 [(0, .ref (zA Z 6 0)), (1, .int x1)] [] M N (fX5_laysAside_2 n M x1) := by
  intro n
  induction n with
  | zero => intro M x1; exact r_none
  | succ n ih =>
    intro M x1
    rw [fX5_laysAside_2]
    refine r_iload_n C dX5_laysAside_2 1 1 rfl rfl ?_
    refine r_bipush (v := 39) C dX5_laysAside_3 (by decide) ?_
    refine r_ic_ge (tgt := 26) C dX5_laysAside_5 (by decide) (fun c1 => ?_) (fun c1 => ?_)
    · exact r_vret C dX5_laysAside_26 rfl
    · refine r_aload_n C dX5_laysAside_8 0 0 rfl rfl ?_
      refine gf_X5_19 C dX5_laysAside_9 ?_
      refine r_iload_n C dX5_laysAside_12 1 1 rfl rfl ?_
      refine r_aload_n C dX5_laysAside_13 0 0 rfl rfl ?_
      refine gf_X5_7 C dX5_laysAside_14 ?_
      refine r_iload_n C dX5_laysAside_17 1 1 rfl rfl ?_
      refine r_guard (fun h2 => ?_)
      refine ald_M (v := (M 0 (ix x1))) C mI_0 h2 rfl dX5_laysAside_18 ?_
      refine ast_M (M' := (wM M 3 (ix x1) (M 0 (ix x1)))) C mI_3 h2 rfl dX5_laysAside_19 ?_
      refine r_iinc (v := (x1 + 1)) (lv' := [(1, .int (x1 + 1)), (0, .ref (zA Z 6 0))]) C dX5_laysAside_20 1 rfl rfl (by decide) rfl ?_
      refine r_goto (tgt := 2) C dX5_laysAside_23 (by decide) ?_
      refine r_lv [1, 0] (lv' := [(0, .ref (zA Z 6 0)), (1, .int (x1 + 1))]) rfl ?_
      exact ih (wM M 3 (ix x1) (M 0 (ix x1))) (x1 + 1)
noncomputable def fX5_laysAside   (M : Mi) : Option (Mi) := (fX5_laysAside_2 fu M 0)
theorem bX5_laysAside {Z : Zt} {E : Ec} {N : Ml} (C : Ok 2 Z E cX5_laysAside 2 RX5 none 0)    (M : Mi)  : GT Z E 2 (finX5_laysAside N) 0 [(0, .ref (zA Z 6 0))] [] M N (fX5_laysAside M) := by
  unfold fX5_laysAside
  refine r_iconst (v := 0) C dX5_laysAside_0 (by decide) ?_
  refine r_istore_n (lv' := [(1, .int 0), (0, .ref (zA Z 6 0))]) C dX5_laysAside_1 1 rfl (by decide) rfl ?_
  refine r_lv [1, 0] (lv' := [(0, .ref (zA Z 6 0)), (1, .int 0)]) rfl ?_
  exact bX5_laysAside_2 C fu M 0
theorem mX5_laysAside (l : Launch) {Z : Zt} (hZ : Zok 2 Z) (M : Mi) (N : Ml) (b : Mi) (hb : fX5_laysAside M = some b) : Ct 2 Z l yX5_laysAside cX5_laysAside 2 none 0 [.ref (zA Z 6 0)] M N (none, b, N) :=
  metG (fin := (finX5_laysAside N)) (by decide) (Nat.le_of_ble_eq_true rfl) (fun E _ C => bX5_laysAside C M) hb
theorem dX5_takesBack_0 : decode cX5_takesBack 0 = .ok (.iconst 0, 1) := by decide +kernel
theorem dX5_takesBack_1 : decode cX5_takesBack 1 = .ok (.istore_n 2, 1) := by decide +kernel
theorem dX5_takesBack_2 : decode cX5_takesBack 2 = .ok (.iload_n 2, 1) := by decide +kernel
theorem dX5_takesBack_3 : decode cX5_takesBack 3 = .ok (.bipush 39, 2) := by decide +kernel
theorem dX5_takesBack_5 : decode cX5_takesBack 5 = .ok (.if_icmp .ge 21, 3) := by decide +kernel
theorem dX5_takesBack_8 : decode cX5_takesBack 8 = .ok (.aload_n 0, 1) := by decide +kernel
theorem dX5_takesBack_9 : decode cX5_takesBack 9 = .ok (.getfield 7, 3) := by decide +kernel
theorem dX5_takesBack_12 : decode cX5_takesBack 12 = .ok (.iload_n 2, 1) := by decide +kernel
theorem dX5_takesBack_13 : decode cX5_takesBack 13 = .ok (.aload_n 0, 1) := by decide +kernel
theorem dX5_takesBack_14 : decode cX5_takesBack 14 = .ok (.getfield 19, 3) := by decide +kernel
theorem dX5_takesBack_17 : decode cX5_takesBack 17 = .ok (.iload_n 2, 1) := by decide +kernel
theorem dX5_takesBack_18 : decode cX5_takesBack 18 = .ok (.iaload, 1) := by decide +kernel
theorem dX5_takesBack_19 : decode cX5_takesBack 19 = .ok (.iastore, 1) := by decide +kernel
theorem dX5_takesBack_20 : decode cX5_takesBack 20 = .ok (.iinc 2 1, 3) := by decide +kernel
theorem dX5_takesBack_23 : decode cX5_takesBack 23 = .ok (.goto (-21), 3) := by decide +kernel
theorem dX5_takesBack_26 : decode cX5_takesBack 26 = .ok (.iload_n 1, 1) := by decide +kernel
theorem dX5_takesBack_27 : decode cX5_takesBack 27 = .ok (.ireturn, 1) := by decide +kernel
def finX5_takesBack (N : Ml) : Int32 × Mi → Option Value × Mi × Ml := fun b => (some (Value.int b.1), b.2, N)
noncomputable def fX5_takesBack_2   : Nat → Mi → Int32 → Int32 → Option (Int32 × Mi)
  | 0 => fun _ _ _ => none
  | n + 1 => fun M x1 x2 => (if 39 ≤ x2 then (some (x1, M)) else (if inb x2 39 then ((fX5_takesBack_2 n) (wM M 0 (ix x2) (M 3 (ix x2))) x1 (x2 + 1)) else none))
theorem bX5_takesBack_2 {Z : Zt} {E : Ec} {N : Ml} (C : Ok 2 Z E cX5_takesBack 3 RX5 (some .int) 0)    : ∀ (n : Nat) (M : Mi) (x1 : Int32) (x2 : Int32), GT Z E 3 (finX5_takesBack N) 2 [(0, .ref (zA Z 6 0)), (1, .int x1), (2, .int x2)] [] M N (fX5_takesBack_2 n M x1 x2) := by
  intro n
  induction n with
  | zero => intro M x1 x2; exact r_none
  | succ n ih =>
    intro M x1 x2
    rw [fX5_takesBack_2]
    refine r_iload_n C dX5_takesBack_2 2 2 rfl rfl ?_
    refine r_bipush (v := 39) C dX5_takesBack_3 (by decide) ?_
    refine r_ic_ge (tgt := 26) C dX5_takesBack_5 (by decide) (fun c1 => ?_) (fun c1 => ?_)
    · refine r_iload_n C dX5_takesBack_26 1 1 rfl rfl ?_
      exact r_iret C dX5_takesBack_27 rfl
    · refine r_aload_n C dX5_takesBack_8 0 0 rfl rfl ?_
      refine gf_X5_7 C dX5_takesBack_9 ?_
      refine r_iload_n C dX5_takesBack_12 2 2 rfl rfl ?_
      refine r_aload_n C dX5_takesBack_13 0 0 rfl rfl ?_
      refine gf_X5_19 C dX5_takesBack_14 ?_
      refine r_iload_n C dX5_takesBack_17 2 2 rfl rfl ?_
      refine r_guard (fun h2 => ?_)
      refine ald_M (v := (M 3 (ix x2))) C mI_3 h2 rfl dX5_takesBack_18 ?_
      refine ast_M (M' := (wM M 0 (ix x2) (M 3 (ix x2)))) C mI_0 h2 rfl dX5_takesBack_19 ?_
      refine r_iinc (v := (x2 + 1)) (lv' := [(2, .int (x2 + 1)), (0, .ref (zA Z 6 0)), (1, .int x1)]) C dX5_takesBack_20 2 rfl rfl (by decide) rfl ?_
      refine r_goto (tgt := 2) C dX5_takesBack_23 (by decide) ?_
      refine r_lv [1, 2, 0] (lv' := [(0, .ref (zA Z 6 0)), (1, .int x1), (2, .int (x2 + 1))]) rfl ?_
      exact ih (wM M 0 (ix x2) (M 3 (ix x2))) x1 (x2 + 1)
noncomputable def fX5_takesBack   (M : Mi) (x1 : Int32) : Option (Int32 × Mi) := (fX5_takesBack_2 fu M x1 0)
theorem bX5_takesBack {Z : Zt} {E : Ec} {N : Ml} (C : Ok 2 Z E cX5_takesBack 3 RX5 (some .int) 0)    (M : Mi) (x1 : Int32)  : GT Z E 3 (finX5_takesBack N) 0 [(0, .ref (zA Z 6 0)), (1, .int x1)] [] M N (fX5_takesBack M x1) := by
  unfold fX5_takesBack
  refine r_iconst (v := 0) C dX5_takesBack_0 (by decide) ?_
  refine r_istore_n (lv' := [(2, .int 0), (0, .ref (zA Z 6 0)), (1, .int x1)]) C dX5_takesBack_1 2 rfl (by decide) rfl ?_
  refine r_lv [1, 2, 0] (lv' := [(0, .ref (zA Z 6 0)), (1, .int x1), (2, .int 0)]) rfl ?_
  exact bX5_takesBack_2 C fu M x1 0
theorem mX5_takesBack (l : Launch) {Z : Zt} (hZ : Zok 2 Z) (M : Mi) (N : Ml) (x1 : Int32) (b : Int32 × Mi) (hb : fX5_takesBack M x1 = some b) : Ct 2 Z l yX5_takesBack cX5_takesBack 3 (some .int) 0 [.ref (zA Z 6 0), .int x1] M N (some (Value.int b.1), b.2, N) :=
  metG (fin := (finX5_takesBack N)) (by decide) (Nat.le_of_ble_eq_true rfl) (fun E _ C => bX5_takesBack C M x1) hb
theorem dX5_becomes_0 : decode cX5_becomes 0 = .ok (.aload_n 0, 1) := by decide +kernel
theorem dX5_becomes_1 : decode cX5_becomes 1 = .ok (.getfield 7, 3) := by decide +kernel
theorem dX5_becomes_4 : decode cX5_becomes 4 = .ok (.iload_n 1, 1) := by decide +kernel
theorem dX5_becomes_5 : decode cX5_becomes 5 = .ok (.iaload, 1) := by decide +kernel
theorem dX5_becomes_6 : decode cX5_becomes 6 = .ok (.istore_n 3, 1) := by decide +kernel
theorem dX5_becomes_7 : decode cX5_becomes 7 = .ok (.aload_n 0, 1) := by decide +kernel
theorem dX5_becomes_8 : decode cX5_becomes 8 = .ok (.getfield 7, 3) := by decide +kernel
theorem dX5_becomes_11 : decode cX5_becomes 11 = .ok (.iload_n 1, 1) := by decide +kernel
theorem dX5_becomes_12 : decode cX5_becomes 12 = .ok (.iload_n 2, 1) := by decide +kernel
theorem dX5_becomes_13 : decode cX5_becomes 13 = .ok (.iastore, 1) := by decide +kernel
theorem dX5_becomes_14 : decode cX5_becomes 14 = .ok (.iload_n 3, 1) := by decide +kernel
theorem dX5_becomes_15 : decode cX5_becomes 15 = .ok (.ireturn, 1) := by decide +kernel
def finX5_becomes (M0 : Mi) (N : Ml) : Int32 × (Nat → Int32) → Option Value × Mi × Ml := fun b => (some (Value.int b.1), sR M0 0 (b.2), N)
noncomputable def fX5_becomes   (σ : Nat → Int32) (x1 : Int32) (x2 : Int32) : Option (Int32 × (Nat → Int32)) := (if inb x1 39 then (some ((σ (ix x1)), (upd σ (ix x1) x2))) else none)
theorem bX5_becomes {Z : Zt} {E : Ec} {M0 : Mi} {N : Ml} (C : Ok 2 Z E cX5_becomes 4 RX5 (some .int) 0)    (σ : Nat → Int32) (x1 : Int32) (x2 : Int32)  : GT Z E 4 (finX5_becomes M0 N) 0 [(0, .ref (zA Z 6 0)), (1, .int x1), (2, .int x2)] [] (sR M0 0 σ) N (fX5_becomes σ x1 x2) := by
  unfold fX5_becomes
  refine r_aload_n C dX5_becomes_0 0 0 rfl rfl ?_
  refine gf_X5_7 C dX5_becomes_1 ?_
  refine r_iload_n C dX5_becomes_4 1 1 rfl rfl ?_
  refine r_guard (fun h1 => ?_)
  refine ald_M (v := (σ (ix x1))) C mI_0 h1 (sR_at _ _ _ _) dX5_becomes_5 ?_
  refine r_istore_n (lv' := [(3, .int (σ (ix x1))), (0, .ref (zA Z 6 0)), (1, .int x1), (2, .int x2)]) C dX5_becomes_6 3 rfl (by decide) rfl ?_
  refine r_aload_n C dX5_becomes_7 0 1 rfl rfl ?_
  refine gf_X5_7 C dX5_becomes_8 ?_
  refine r_iload_n C dX5_becomes_11 1 2 rfl rfl ?_
  refine r_iload_n C dX5_becomes_12 2 3 rfl rfl ?_
  refine ast_M (M' := (sR M0 0 (upd σ (ix x1) x2))) C mI_0 h1 (wM_sR _ _ _ _ _) dX5_becomes_13 ?_
  refine r_iload_n C dX5_becomes_14 3 0 rfl rfl ?_
  exact r_iret C dX5_becomes_15 rfl
theorem mX5_becomes (l : Launch) {Z : Zt} (hZ : Zok 2 Z) (M0 : Mi) (N : Ml) (σ : Nat → Int32) (x1 : Int32) (x2 : Int32) (b : Int32 × (Nat → Int32)) (hb : fX5_becomes σ x1 x2 = some b) : Ct 2 Z l yX5_becomes cX5_becomes 4 (some .int) 0 [.ref (zA Z 6 0), .int x1, .int x2] (sR M0 0 σ) N (some (Value.int b.1), sR M0 0 (b.2), N) :=
  metG (fin := (finX5_becomes M0 N)) (by decide) (Nat.le_of_ble_eq_true rfl) (fun E _ C => bX5_becomes C σ x1 x2) hb
theorem dX5_isCell_0 : decode cX5_isCell 0 = .ok (.iload_n 0, 1) := by decide +kernel
theorem dX5_isCell_1 : decode cX5_isCell 1 = .ok (.i2l, 1) := by decide +kernel
theorem dX5_isCell_2 : decode cX5_isCell 2 = .ok (.lconst 0, 1) := by decide +kernel
theorem dX5_isCell_3 : decode cX5_isCell 3 = .ok (.ldc2_w 42, 3) := by decide +kernel
theorem dX5_isCell_6 : decode cX5_isCell 6 = .ok (.invokestatic 44, 3) := by decide +kernel
theorem dX5_isCell_9 : decode cX5_isCell 9 = .ok (.ireturn, 1) := by decide +kernel
def finX5_isCell (M : Mi) (N : Ml) : Int32 → Option Value × Mi × Ml := fun b => (some (Value.int b), M, N)
noncomputable def fX5_isCell   (x0 : Int32) : Int32 := (fX5_in (Int32.toInt64 x0) 0 29)
theorem bX5_isCell {Z : Zt} {E : Ec} {M : Mi} {N : Ml} (C : Ok 2 Z E cX5_isCell 1 RX5 (some .boolean) 1)    (x0 : Int32)  : GT Z E 1 (finX5_isCell M N) 0 [(0, .int x0)] [] M N (some (fX5_isCell x0)) := by
  unfold fX5_isCell
  refine r_iload_n C dX5_isCell_0 0 0 rfl rfl ?_
  refine r_i2l C dX5_isCell_1 ?_
  refine r_lconst (v := 0) C dX5_isCell_2 (by decide) ?_
  refine r_ldc2 (v := 29) C dX5_isCell_3 wd_855 ?_
  refine r_callS (rest := []) (st2 := [.int (fX5_in (Int32.toInt64 x0) 0 29)]) C (mX5_in (eL E) C.z _ _ (Int32.toInt64 x0) 0 29) lk_X5_44 (by decide) rfl rfl (Nat.le_of_ble_eq_true rfl) dX5_isCell_6 rfl ?_
  exact r_zret C dX5_isCell_9 (zbX5_in  (Int32.toInt64 x0) 0 29) rfl
theorem zbX5_isCell (x0 : Int32) : fX5_isCell x0 = 0 ∨ fX5_isCell x0 = 1 := by
  unfold fX5_isCell; (repeat' split) <;> first | exact Or.inl rfl | exact Or.inr rfl | exact zbX5_in _ _ _
theorem mX5_isCell (l : Launch) {Z : Zt} (hZ : Zok 2 Z) (M : Mi) (N : Ml) (x0 : Int32) : Ct 2 Z l yX5_isCell cX5_isCell 1 (some .boolean) 1 [.int x0] M N (some (Value.int (fX5_isCell x0)), M, N) :=
  metG (fin := (finX5_isCell M N)) (by decide) (Nat.le_of_ble_eq_true rfl) (fun E _ C => bX5_isCell C x0) rfl
theorem dX5_isKind_0 : decode cX5_isKind 0 = .ok (.iload_n 0, 1) := by decide +kernel
theorem dX5_isKind_1 : decode cX5_isKind 1 = .ok (.i2l, 1) := by decide +kernel
theorem dX5_isKind_2 : decode cX5_isKind 2 = .ok (.lconst 0, 1) := by decide +kernel
theorem dX5_isKind_3 : decode cX5_isKind 3 = .ok (.ldc2_w 48, 3) := by decide +kernel
theorem dX5_isKind_6 : decode cX5_isKind 6 = .ok (.invokestatic 44, 3) := by decide +kernel
theorem dX5_isKind_9 : decode cX5_isKind 9 = .ok (.ireturn, 1) := by decide +kernel
def finX5_isKind (M : Mi) (N : Ml) : Int32 → Option Value × Mi × Ml := fun b => (some (Value.int b), M, N)
noncomputable def fX5_isKind   (x0 : Int32) : Int32 := (fX5_in (Int32.toInt64 x0) 0 5)
theorem bX5_isKind {Z : Zt} {E : Ec} {M : Mi} {N : Ml} (C : Ok 2 Z E cX5_isKind 1 RX5 (some .boolean) 1)    (x0 : Int32)  : GT Z E 1 (finX5_isKind M N) 0 [(0, .int x0)] [] M N (some (fX5_isKind x0)) := by
  unfold fX5_isKind
  refine r_iload_n C dX5_isKind_0 0 0 rfl rfl ?_
  refine r_i2l C dX5_isKind_1 ?_
  refine r_lconst (v := 0) C dX5_isKind_2 (by decide) ?_
  refine r_ldc2 (v := 5) C dX5_isKind_3 wd_912 ?_
  refine r_callS (rest := []) (st2 := [.int (fX5_in (Int32.toInt64 x0) 0 5)]) C (mX5_in (eL E) C.z _ _ (Int32.toInt64 x0) 0 5) lk_X5_44 (by decide) rfl rfl (Nat.le_of_ble_eq_true rfl) dX5_isKind_6 rfl ?_
  exact r_zret C dX5_isKind_9 (zbX5_in  (Int32.toInt64 x0) 0 5) rfl
theorem zbX5_isKind (x0 : Int32) : fX5_isKind x0 = 0 ∨ fX5_isKind x0 = 1 := by
  unfold fX5_isKind; (repeat' split) <;> first | exact Or.inl rfl | exact Or.inr rfl | exact zbX5_in _ _ _
theorem mX5_isKind (l : Launch) {Z : Zt} (hZ : Zok 2 Z) (M : Mi) (N : Ml) (x0 : Int32) : Ct 2 Z l yX5_isKind cX5_isKind 1 (some .boolean) 1 [.int x0] M N (some (Value.int (fX5_isKind x0)), M, N) :=
  metG (fin := (finX5_isKind M N)) (by decide) (Nat.le_of_ble_eq_true rfl) (fun E _ C => bX5_isKind C x0) rfl
theorem dX5_isSubject_0 : decode cX5_isSubject 0 = .ok (.iload_n 0, 1) := by decide +kernel
theorem dX5_isSubject_1 : decode cX5_isSubject 1 = .ok (.i2l, 1) := by decide +kernel
theorem dX5_isSubject_2 : decode cX5_isSubject 2 = .ok (.lconst 0, 1) := by decide +kernel
theorem dX5_isSubject_3 : decode cX5_isSubject 3 = .ok (.ldc2_w 50, 3) := by decide +kernel
theorem dX5_isSubject_6 : decode cX5_isSubject 6 = .ok (.invokestatic 44, 3) := by decide +kernel
theorem dX5_isSubject_9 : decode cX5_isSubject 9 = .ok (.ireturn, 1) := by decide +kernel
def finX5_isSubject (M : Mi) (N : Ml) : Int32 → Option Value × Mi × Ml := fun b => (some (Value.int b), M, N)
noncomputable def fX5_isSubject   (x0 : Int32) : Int32 := (fX5_in (Int32.toInt64 x0) 0 11)
theorem bX5_isSubject {Z : Zt} {E : Ec} {M : Mi} {N : Ml} (C : Ok 2 Z E cX5_isSubject 1 RX5 (some .boolean) 1)    (x0 : Int32)  : GT Z E 1 (finX5_isSubject M N) 0 [(0, .int x0)] [] M N (some (fX5_isSubject x0)) := by
  unfold fX5_isSubject
  refine r_iload_n C dX5_isSubject_0 0 0 rfl rfl ?_
  refine r_i2l C dX5_isSubject_1 ?_
  refine r_lconst (v := 0) C dX5_isSubject_2 (by decide) ?_
  refine r_ldc2 (v := 11) C dX5_isSubject_3 wd_979 ?_
  refine r_callS (rest := []) (st2 := [.int (fX5_in (Int32.toInt64 x0) 0 11)]) C (mX5_in (eL E) C.z _ _ (Int32.toInt64 x0) 0 11) lk_X5_44 (by decide) rfl rfl (Nat.le_of_ble_eq_true rfl) dX5_isSubject_6 rfl ?_
  exact r_zret C dX5_isSubject_9 (zbX5_in  (Int32.toInt64 x0) 0 11) rfl
theorem zbX5_isSubject (x0 : Int32) : fX5_isSubject x0 = 0 ∨ fX5_isSubject x0 = 1 := by
  unfold fX5_isSubject; (repeat' split) <;> first | exact Or.inl rfl | exact Or.inr rfl | exact zbX5_in _ _ _
theorem mX5_isSubject (l : Launch) {Z : Zt} (hZ : Zok 2 Z) (M : Mi) (N : Ml) (x0 : Int32) : Ct 2 Z l yX5_isSubject cX5_isSubject 1 (some .boolean) 1 [.int x0] M N (some (Value.int (fX5_isSubject x0)), M, N) :=
  metG (fin := (finX5_isSubject M N)) (by decide) (Nat.le_of_ble_eq_true rfl) (fun E _ C => bX5_isSubject C x0) rfl
theorem dX5_isSet_0 : decode cX5_isSet 0 = .ok (.lload_n 0, 1) := by decide +kernel
theorem dX5_isSet_1 : decode cX5_isSet 1 = .ok (.lconst 0, 1) := by decide +kernel
theorem dX5_isSet_2 : decode cX5_isSet 2 = .ok (.ldc2_w 52, 3) := by decide +kernel
theorem dX5_isSet_5 : decode cX5_isSet 5 = .ok (.invokestatic 44, 3) := by decide +kernel
theorem dX5_isSet_8 : decode cX5_isSet 8 = .ok (.ireturn, 1) := by decide +kernel
def finX5_isSet (M : Mi) (N : Ml) : Int32 → Option Value × Mi × Ml := fun b => (some (Value.int b), M, N)
noncomputable def fX5_isSet   (x0 : Int64) : Int32 := (fX5_in x0 0 4095)
theorem bX5_isSet {Z : Zt} {E : Ec} {M : Mi} {N : Ml} (C : Ok 2 Z E cX5_isSet 2 RX5 (some .boolean) 1)    (x0 : Int64)  : GT Z E 2 (finX5_isSet M N) 0 [(0, .long x0)] [] M N (some (fX5_isSet x0)) := by
  unfold fX5_isSet
  refine r_lload_n C dX5_isSet_0 0 0 rfl rfl ?_
  refine r_lconst (v := 0) C dX5_isSet_1 (by decide) ?_
  refine r_ldc2 (v := 4095) C dX5_isSet_2 wd_916 ?_
  refine r_callS (rest := []) (st2 := [.int (fX5_in x0 0 4095)]) C (mX5_in (eL E) C.z _ _ x0 0 4095) lk_X5_44 (by decide) rfl rfl (Nat.le_of_ble_eq_true rfl) dX5_isSet_5 rfl ?_
  exact r_zret C dX5_isSet_8 (zbX5_in  x0 0 4095) rfl
theorem zbX5_isSet (x0 : Int64) : fX5_isSet x0 = 0 ∨ fX5_isSet x0 = 1 := by
  unfold fX5_isSet; (repeat' split) <;> first | exact Or.inl rfl | exact Or.inr rfl | exact zbX5_in _ _ _
theorem mX5_isSet (l : Launch) {Z : Zt} (hZ : Zok 2 Z) (M : Mi) (N : Ml) (x0 : Int64) : Ct 2 Z l yX5_isSet cX5_isSet 2 (some .boolean) 1 [.long x0] M N (some (Value.int (fX5_isSet x0)), M, N) :=
  metG (fin := (finX5_isSet M N)) (by decide) (Nat.le_of_ble_eq_true rfl) (fun E _ C => bX5_isSet C x0) rfl
theorem dX5_isOne_0 : decode cX5_isOne 0 = .ok (.iload_n 1, 1) := by decide +kernel
theorem dX5_isOne_1 : decode cX5_isOne 1 = .ok (.i2l, 1) := by decide +kernel
theorem dX5_isOne_2 : decode cX5_isOne 2 = .ok (.lconst 0, 1) := by decide +kernel
theorem dX5_isOne_3 : decode cX5_isOne 3 = .ok (.aload_n 0, 1) := by decide +kernel
theorem dX5_isOne_4 : decode cX5_isOne 4 = .ok (.getfield 7, 3) := by decide +kernel
theorem dX5_isOne_7 : decode cX5_isOne 7 = .ok (.iconst 1, 1) := by decide +kernel
theorem dX5_isOne_8 : decode cX5_isOne 8 = .ok (.iaload, 1) := by decide +kernel
theorem dX5_isOne_9 : decode cX5_isOne 9 = .ok (.iconst 1, 1) := by decide +kernel
theorem dX5_isOne_10 : decode cX5_isOne 10 = .ok (.isub, 1) := by decide +kernel
theorem dX5_isOne_11 : decode cX5_isOne 11 = .ok (.i2l, 1) := by decide +kernel
theorem dX5_isOne_12 : decode cX5_isOne 12 = .ok (.invokestatic 44, 3) := by decide +kernel
theorem dX5_isOne_15 : decode cX5_isOne 15 = .ok (.ireturn, 1) := by decide +kernel
def finX5_isOne (M0 : Mi) (σ : Nat → Int32) (N : Ml) : Int32 → Option Value × Mi × Ml := fun b => (some (Value.int b), sR M0 0 σ, N)
noncomputable def fX5_isOne (σ : Nat → Int32)  (x1 : Int32) : Int32 := (fX5_in (Int32.toInt64 x1) 0 (Int32.toInt64 ((σ 1) - 1)))
theorem bX5_isOne {Z : Zt} {E : Ec} {M0 : Mi} {σ : Nat → Int32} {N : Ml} (C : Ok 2 Z E cX5_isOne 2 RX5 (some .boolean) 1)    (x1 : Int32)  : GT Z E 2 (finX5_isOne M0 σ N) 0 [(0, .ref (zA Z 6 0)), (1, .int x1)] [] (sR M0 0 σ) N (some (fX5_isOne σ x1)) := by
  unfold fX5_isOne
  refine r_iload_n C dX5_isOne_0 1 1 rfl rfl ?_
  refine r_i2l C dX5_isOne_1 ?_
  refine r_lconst (v := 0) C dX5_isOne_2 (by decide) ?_
  refine r_aload_n C dX5_isOne_3 0 0 rfl rfl ?_
  refine gf_X5_7 C dX5_isOne_4 ?_
  refine r_iconst (v := 1) C dX5_isOne_7 (by decide) ?_
  refine ald_M (v := (σ 1)) C mI_0 (by decide) (sR_at _ _ _ _) dX5_isOne_8 ?_
  refine r_iconst (v := 1) C dX5_isOne_9 (by decide) ?_
  refine r_isub C dX5_isOne_10 ?_
  refine r_i2l C dX5_isOne_11 ?_
  refine r_callS (rest := []) (st2 := [.int (fX5_in (Int32.toInt64 x1) 0 (Int32.toInt64 ((σ 1) - 1)))]) C (mX5_in (eL E) C.z _ _ (Int32.toInt64 x1) 0 (Int32.toInt64 ((σ 1) - 1))) lk_X5_44 (by decide) rfl rfl (Nat.le_of_ble_eq_true rfl) dX5_isOne_12 rfl ?_
  exact r_zret C dX5_isOne_15 (zbX5_in  (Int32.toInt64 x1) 0 (Int32.toInt64 ((σ 1) - 1))) rfl
theorem zbX5_isOne (σ : Nat → Int32) (x1 : Int32) : fX5_isOne σ x1 = 0 ∨ fX5_isOne σ x1 = 1 := by
  unfold fX5_isOne; (repeat' split) <;> first | exact Or.inl rfl | exact Or.inr rfl | exact zbX5_in _ _ _
theorem mX5_isOne (l : Launch) {Z : Zt} (hZ : Zok 2 Z) (M0 : Mi) (N : Ml) (σ : Nat → Int32) (x1 : Int32) : Ct 2 Z l yX5_isOne cX5_isOne 2 (some .boolean) 1 [.ref (zA Z 6 0), .int x1] (sR M0 0 σ) N (some (Value.int (fX5_isOne σ x1)), sR M0 0 σ, N) :=
  metG (fin := (finX5_isOne M0 σ N)) (by decide) (Nat.le_of_ble_eq_true rfl) (fun E _ C => bX5_isOne C x1) rfl
theorem dX5_areTwo_0 : decode cX5_areTwo 0 = .ok (.aload_n 0, 1) := by decide +kernel
theorem dX5_areTwo_1 : decode cX5_areTwo 1 = .ok (.iload_n 1, 1) := by decide +kernel
theorem dX5_areTwo_2 : decode cX5_areTwo 2 = .ok (.invokevirtual 54, 3) := by decide +kernel
theorem dX5_areTwo_5 : decode cX5_areTwo 5 = .ok (.ifCond .eq 20, 3) := by decide +kernel
theorem dX5_areTwo_8 : decode cX5_areTwo 8 = .ok (.aload_n 0, 1) := by decide +kernel
theorem dX5_areTwo_9 : decode cX5_areTwo 9 = .ok (.iload_n 2, 1) := by decide +kernel
theorem dX5_areTwo_10 : decode cX5_areTwo 10 = .ok (.invokevirtual 54, 3) := by decide +kernel
theorem dX5_areTwo_13 : decode cX5_areTwo 13 = .ok (.ifCond .eq 12, 3) := by decide +kernel
theorem dX5_areTwo_16 : decode cX5_areTwo 16 = .ok (.iload_n 1, 1) := by decide +kernel
theorem dX5_areTwo_17 : decode cX5_areTwo 17 = .ok (.iload_n 2, 1) := by decide +kernel
theorem dX5_areTwo_18 : decode cX5_areTwo 18 = .ok (.if_icmp .eq 7, 3) := by decide +kernel
theorem dX5_areTwo_21 : decode cX5_areTwo 21 = .ok (.iconst 1, 1) := by decide +kernel
theorem dX5_areTwo_22 : decode cX5_areTwo 22 = .ok (.goto 4, 3) := by decide +kernel
theorem dX5_areTwo_25 : decode cX5_areTwo 25 = .ok (.iconst 0, 1) := by decide +kernel
theorem dX5_areTwo_26 : decode cX5_areTwo 26 = .ok (.ireturn, 1) := by decide +kernel
def finX5_areTwo (M0 : Mi) (σ : Nat → Int32) (N : Ml) : Int32 → Option Value × Mi × Ml := fun b => (some (Value.int b), sR M0 0 σ, N)
noncomputable def fX5_areTwo (σ : Nat → Int32)  (x1 : Int32) (x2 : Int32) : Int32 := (if (fX5_isOne σ x1) = 0 then 0 else (if (fX5_isOne σ x2) = 0 then 0 else (if x1 = x2 then 0 else 1)))
theorem bX5_areTwo {Z : Zt} {E : Ec} {M0 : Mi} {σ : Nat → Int32} {N : Ml} (C : Ok 2 Z E cX5_areTwo 3 RX5 (some .boolean) 2)    (x1 : Int32) (x2 : Int32)  : GT Z E 3 (finX5_areTwo M0 σ N) 0 [(0, .ref (zA Z 6 0)), (1, .int x1), (2, .int x2)] [] (sR M0 0 σ) N (some (fX5_areTwo σ x1 x2)) := by
  unfold fX5_areTwo
  refine r_aload_n C dX5_areTwo_0 0 0 rfl rfl ?_
  refine r_iload_n C dX5_areTwo_1 1 1 rfl rfl ?_
  refine r_callV (rest := []) (st2 := [.int (fX5_isOne σ x1)]) C (mX5_isOne (eL E) C.z _ _ σ x1) lk_X5_54 (rvM C) (by decide) rfl rfl (Nat.le_of_ble_eq_true rfl) dX5_areTwo_2 rfl ?_
  refine r_st ?_
  refine r_if_eq (tgt := 25) C dX5_areTwo_5 (by decide) (fun c1 => ?_) (fun c1 => ?_)
  · refine r_iconst (v := 0) C dX5_areTwo_25 (by decide) ?_
    exact r_zret C dX5_areTwo_26 (Or.inl rfl) rfl
  · refine r_aload_n C dX5_areTwo_8 0 0 rfl rfl ?_
    refine r_iload_n C dX5_areTwo_9 2 2 rfl rfl ?_
    refine r_callV (rest := []) (st2 := [.int (fX5_isOne σ x2)]) C (mX5_isOne (eL E) C.z _ _ σ x2) lk_X5_54 (rvM C) (by decide) rfl rfl (Nat.le_of_ble_eq_true rfl) dX5_areTwo_10 rfl ?_
    refine r_st ?_
    refine r_if_eq (tgt := 25) C dX5_areTwo_13 (by decide) (fun c2 => ?_) (fun c2 => ?_)
    · refine r_iconst (v := 0) C dX5_areTwo_25 (by decide) ?_
      exact r_zret C dX5_areTwo_26 (Or.inl rfl) rfl
    · refine r_iload_n C dX5_areTwo_16 1 1 rfl rfl ?_
      refine r_iload_n C dX5_areTwo_17 2 2 rfl rfl ?_
      refine r_st ?_
      refine r_ic_eq (tgt := 25) C dX5_areTwo_18 (by decide) (fun c3 => ?_) (fun c3 => ?_)
      · refine r_iconst (v := 0) C dX5_areTwo_25 (by decide) ?_
        exact r_zret C dX5_areTwo_26 (Or.inl rfl) rfl
      · refine r_iconst (v := 1) C dX5_areTwo_21 (by decide) ?_
        refine r_goto (tgt := 26) C dX5_areTwo_22 (by decide) ?_
        exact r_zret C dX5_areTwo_26 (Or.inr rfl) rfl
theorem zbX5_areTwo (σ : Nat → Int32) (x1 : Int32) (x2 : Int32) : fX5_areTwo σ x1 x2 = 0 ∨ fX5_areTwo σ x1 x2 = 1 := by
  unfold fX5_areTwo; (repeat' split) <;> first | exact Or.inl rfl | exact Or.inr rfl | exact zbX5_isOne _ _
theorem mX5_areTwo (l : Launch) {Z : Zt} (hZ : Zok 2 Z) (M0 : Mi) (N : Ml) (σ : Nat → Int32) (x1 : Int32) (x2 : Int32) : Ct 2 Z l yX5_areTwo cX5_areTwo 3 (some .boolean) 2 [.ref (zA Z 6 0), .int x1, .int x2] (sR M0 0 σ) N (some (Value.int (fX5_areTwo σ x1 x2)), sR M0 0 σ, N) :=
  metG (fin := (finX5_areTwo M0 σ N)) (by decide) (Nat.le_of_ble_eq_true rfl) (fun E _ C => bX5_areTwo C x1 x2) rfl
theorem dX5_spotOf_0 : decode cX5_spotOf 0 = .ok (.bipush 7, 2) := by decide +kernel
theorem dX5_spotOf_2 : decode cX5_spotOf 2 = .ok (.iconst 4, 1) := by decide +kernel
theorem dX5_spotOf_3 : decode cX5_spotOf 3 = .ok (.iload_n 0, 1) := by decide +kernel
theorem dX5_spotOf_4 : decode cX5_spotOf 4 = .ok (.imul, 1) := by decide +kernel
theorem dX5_spotOf_5 : decode cX5_spotOf 5 = .ok (.iadd, 1) := by decide +kernel
theorem dX5_spotOf_6 : decode cX5_spotOf 6 = .ok (.iload_n 1, 1) := by decide +kernel
theorem dX5_spotOf_7 : decode cX5_spotOf 7 = .ok (.iadd, 1) := by decide +kernel
theorem dX5_spotOf_8 : decode cX5_spotOf 8 = .ok (.ireturn, 1) := by decide +kernel
def finX5_spotOf (M : Mi) (N : Ml) : Int32 → Option Value × Mi × Ml := fun b => (some (Value.int b), M, N)
noncomputable def fX5_spotOf   (x0 : Int32) (x1 : Int32) : Int32 := ((7 + (4 * x0)) + x1)
theorem bX5_spotOf {Z : Zt} {E : Ec} {M : Mi} {N : Ml} (C : Ok 2 Z E cX5_spotOf 2 RX5 (some .int) 0)    (x0 : Int32) (x1 : Int32)  : GT Z E 2 (finX5_spotOf M N) 0 [(0, .int x0), (1, .int x1)] [] M N (some (fX5_spotOf x0 x1)) := by
  unfold fX5_spotOf
  refine r_bipush (v := 7) C dX5_spotOf_0 (by decide) ?_
  refine r_iconst (v := 4) C dX5_spotOf_2 (by decide) ?_
  refine r_iload_n C dX5_spotOf_3 0 0 rfl rfl ?_
  refine r_imul C dX5_spotOf_4 ?_
  refine r_iadd C dX5_spotOf_5 ?_
  refine r_iload_n C dX5_spotOf_6 1 1 rfl rfl ?_
  refine r_iadd C dX5_spotOf_7 ?_
  exact r_iret C dX5_spotOf_8 rfl
theorem mX5_spotOf (l : Launch) {Z : Zt} (hZ : Zok 2 Z) (M : Mi) (N : Ml) (x0 : Int32) (x1 : Int32) : Ct 2 Z l yX5_spotOf cX5_spotOf 2 (some .int) 0 [.int x0, .int x1] M N (some (Value.int (fX5_spotOf x0 x1)), M, N) :=
  metG (fin := (finX5_spotOf M N)) (by decide) (Nat.le_of_ble_eq_true rfl) (fun E _ C => bX5_spotOf C x0 x1) rfl
theorem dX5_its_0 : decode cX5_its 0 = .ok (.aload_n 0, 1) := by decide +kernel
theorem dX5_its_1 : decode cX5_its 1 = .ok (.getfield 7, 3) := by decide +kernel
theorem dX5_its_4 : decode cX5_its 4 = .ok (.iload_n 1, 1) := by decide +kernel
theorem dX5_its_5 : decode cX5_its 5 = .ok (.iload_n 2, 1) := by decide +kernel
theorem dX5_its_6 : decode cX5_its 6 = .ok (.invokestatic 58, 3) := by decide +kernel
theorem dX5_its_9 : decode cX5_its 9 = .ok (.iaload, 1) := by decide +kernel
theorem dX5_its_10 : decode cX5_its 10 = .ok (.ireturn, 1) := by decide +kernel
def finX5_its (M0 : Mi) (σ : Nat → Int32) (N : Ml) : Int32 → Option Value × Mi × Ml := fun b => (some (Value.int b), sR M0 0 σ, N)
noncomputable def fX5_its (σ : Nat → Int32)  (x1 : Int32) (x2 : Int32) : Option (Int32) := (if inb (fX5_spotOf x1 x2) 39 then (some (σ (ix (fX5_spotOf x1 x2)))) else none)
theorem bX5_its {Z : Zt} {E : Ec} {M0 : Mi} {σ : Nat → Int32} {N : Ml} (C : Ok 2 Z E cX5_its 3 RX5 (some .int) 1)    (x1 : Int32) (x2 : Int32)  : GT Z E 3 (finX5_its M0 σ N) 0 [(0, .ref (zA Z 6 0)), (1, .int x1), (2, .int x2)] [] (sR M0 0 σ) N (fX5_its σ x1 x2) := by
  unfold fX5_its
  refine r_aload_n C dX5_its_0 0 0 rfl rfl ?_
  refine gf_X5_7 C dX5_its_1 ?_
  refine r_iload_n C dX5_its_4 1 1 rfl rfl ?_
  refine r_iload_n C dX5_its_5 2 2 rfl rfl ?_
  refine r_callS (rest := [.ref (zA Z 0 0)]) (st2 := [.int (fX5_spotOf x1 x2), .ref (zA Z 0 0)]) C (mX5_spotOf (eL E) C.z _ _ x1 x2) lk_X5_58 (by decide) rfl rfl (Nat.le_of_ble_eq_true rfl) dX5_its_6 rfl ?_
  refine r_guard (fun h1 => ?_)
  refine ald_M (v := (σ (ix (fX5_spotOf x1 x2)))) C mI_0 h1 (sR_at _ _ _ _) dX5_its_9 ?_
  exact r_iret C dX5_its_10 rfl
theorem mX5_its (l : Launch) {Z : Zt} (hZ : Zok 2 Z) (M0 : Mi) (N : Ml) (σ : Nat → Int32) (x1 : Int32) (x2 : Int32) (b : Int32) (hb : fX5_its σ x1 x2 = some b) : Ct 2 Z l yX5_its cX5_its 3 (some .int) 1 [.ref (zA Z 6 0), .int x1, .int x2] (sR M0 0 σ) N (some (Value.int b), sR M0 0 σ, N) :=
  metG (fin := (finX5_its M0 σ N)) (by decide) (Nat.le_of_ble_eq_true rfl) (fun E _ C => bX5_its C x1 x2) hb
theorem dX5_ones_0 : decode cX5_ones 0 = .ok (.iconst 0, 1) := by decide +kernel
theorem dX5_ones_1 : decode cX5_ones 1 = .ok (.istore_n 1, 1) := by decide +kernel
theorem dX5_ones_2 : decode cX5_ones 2 = .ok (.iload_n 0, 1) := by decide +kernel
theorem dX5_ones_3 : decode cX5_ones 3 = .ok (.istore_n 2, 1) := by decide +kernel
theorem dX5_ones_4 : decode cX5_ones 4 = .ok (.iload_n 2, 1) := by decide +kernel
theorem dX5_ones_5 : decode cX5_ones 5 = .ok (.ifCond .eq 15, 3) := by decide +kernel
theorem dX5_ones_8 : decode cX5_ones 8 = .ok (.iinc 1 1, 3) := by decide +kernel
theorem dX5_ones_11 : decode cX5_ones 11 = .ok (.iload_n 2, 1) := by decide +kernel
theorem dX5_ones_12 : decode cX5_ones 12 = .ok (.iload_n 2, 1) := by decide +kernel
theorem dX5_ones_13 : decode cX5_ones 13 = .ok (.iconst 1, 1) := by decide +kernel
theorem dX5_ones_14 : decode cX5_ones 14 = .ok (.isub, 1) := by decide +kernel
theorem dX5_ones_15 : decode cX5_ones 15 = .ok (.iand, 1) := by decide +kernel
theorem dX5_ones_16 : decode cX5_ones 16 = .ok (.istore_n 2, 1) := by decide +kernel
theorem dX5_ones_17 : decode cX5_ones 17 = .ok (.goto (-13), 3) := by decide +kernel
theorem dX5_ones_20 : decode cX5_ones 20 = .ok (.iload_n 1, 1) := by decide +kernel
theorem dX5_ones_21 : decode cX5_ones 21 = .ok (.ireturn, 1) := by decide +kernel
def finX5_ones (M : Mi) (N : Ml) : Int32 → Option Value × Mi × Ml := fun b => (some (Value.int b), M, N)
noncomputable def fX5_ones_4   : Nat → Int32 → Int32 → Option (Int32)
  | 0 => fun _ _ => none
  | n + 1 => fun x1 x2 => (if x2 = 0 then (some x1) else ((fX5_ones_4 n) (x1 + 1) (x2 &&& (x2 - 1))))
theorem bX5_ones_4 {Z : Zt} {E : Ec} {M : Mi} {N : Ml} (C : Ok 2 Z E cX5_ones 3 RX5 (some .int) 0)    : ∀ (n : Nat) (x1 : Int32) (x2 : Int32), GT Z E 3 (finX5_ones M N) 4 [(1, .int x1), (2, .int x2)] [] M N (fX5_ones_4 n x1 x2) := by
  intro n
  induction n with
  | zero => intro x1 x2; exact r_none
  | succ n ih =>
    intro x1 x2
    rw [fX5_ones_4]
    refine r_iload_n C dX5_ones_4 2 1 rfl rfl ?_
    refine r_if_eq (tgt := 20) C dX5_ones_5 (by decide) (fun c1 => ?_) (fun c1 => ?_)
    · refine r_iload_n C dX5_ones_20 1 0 rfl rfl ?_
      exact r_iret C dX5_ones_21 rfl
    · refine r_iinc (v := (x1 + 1)) (lv' := [(1, .int (x1 + 1)), (2, .int x2)]) C dX5_ones_8 0 rfl rfl (by decide) rfl ?_
      refine r_iload_n C dX5_ones_11 2 1 rfl rfl ?_
      refine r_iload_n C dX5_ones_12 2 1 rfl rfl ?_
      refine r_iconst (v := 1) C dX5_ones_13 (by decide) ?_
      refine r_isub C dX5_ones_14 ?_
      refine r_iand C dX5_ones_15 ?_
      refine r_istore_n (lv' := [(2, .int (x2 &&& (x2 - 1))), (1, .int (x1 + 1))]) C dX5_ones_16 2 rfl (by decide) rfl ?_
      refine r_goto (tgt := 4) C dX5_ones_17 (by decide) ?_
      refine r_lv [1, 0] (lv' := [(1, .int (x1 + 1)), (2, .int (x2 &&& (x2 - 1)))]) rfl ?_
      exact ih (x1 + 1) (x2 &&& (x2 - 1))
noncomputable def fX5_ones   (x0 : Int32) : Option (Int32) := (fX5_ones_4 fu 0 x0)
theorem bX5_ones {Z : Zt} {E : Ec} {M : Mi} {N : Ml} (C : Ok 2 Z E cX5_ones 3 RX5 (some .int) 0)    (x0 : Int32)  : GT Z E 3 (finX5_ones M N) 0 [(0, .int x0)] [] M N (fX5_ones x0) := by
  unfold fX5_ones
  refine r_iconst (v := 0) C dX5_ones_0 (by decide) ?_
  refine r_istore_n (lv' := [(1, .int 0), (0, .int x0)]) C dX5_ones_1 1 rfl (by decide) rfl ?_
  refine r_iload_n C dX5_ones_2 0 1 rfl rfl ?_
  refine r_istore_n (lv' := [(2, .int x0), (1, .int 0), (0, .int x0)]) C dX5_ones_3 2 rfl (by decide) rfl ?_
  refine r_lv [1, 0] (lv' := [(1, .int 0), (2, .int x0)]) rfl ?_
  exact bX5_ones_4 C fu 0 x0
theorem mX5_ones (l : Launch) {Z : Zt} (hZ : Zok 2 Z) (M : Mi) (N : Ml) (x0 : Int32) (b : Int32) (hb : fX5_ones x0 = some b) : Ct 2 Z l yX5_ones cX5_ones 3 (some .int) 0 [.int x0] M N (some (Value.int b), M, N) :=
  metG (fin := (finX5_ones M N)) (by decide) (Nat.le_of_ble_eq_true rfl) (fun E _ C => bX5_ones C x0) hb
theorem dX5_isFenced_0 : decode cX5_isFenced 0 = .ok (.aload_n 0, 1) := by decide +kernel
theorem dX5_isFenced_1 : decode cX5_isFenced 1 = .ok (.getfield 7, 3) := by decide +kernel
theorem dX5_isFenced_4 : decode cX5_isFenced 4 = .ok (.iconst 2, 1) := by decide +kernel
theorem dX5_isFenced_5 : decode cX5_isFenced 5 = .ok (.iaload, 1) := by decide +kernel
theorem dX5_isFenced_6 : decode cX5_isFenced 6 = .ok (.iload_n 1, 1) := by decide +kernel
theorem dX5_isFenced_7 : decode cX5_isFenced 7 = .ok (.ishr, 1) := by decide +kernel
theorem dX5_isFenced_8 : decode cX5_isFenced 8 = .ok (.iconst 1, 1) := by decide +kernel
theorem dX5_isFenced_9 : decode cX5_isFenced 9 = .ok (.iand, 1) := by decide +kernel
theorem dX5_isFenced_10 : decode cX5_isFenced 10 = .ok (.iconst 1, 1) := by decide +kernel
theorem dX5_isFenced_11 : decode cX5_isFenced 11 = .ok (.if_icmp .ne 7, 3) := by decide +kernel
theorem dX5_isFenced_14 : decode cX5_isFenced 14 = .ok (.iconst 1, 1) := by decide +kernel
theorem dX5_isFenced_15 : decode cX5_isFenced 15 = .ok (.goto 4, 3) := by decide +kernel
theorem dX5_isFenced_18 : decode cX5_isFenced 18 = .ok (.iconst 0, 1) := by decide +kernel
theorem dX5_isFenced_19 : decode cX5_isFenced 19 = .ok (.ireturn, 1) := by decide +kernel
def finX5_isFenced (M0 : Mi) (σ : Nat → Int32) (N : Ml) : Int32 → Option Value × Mi × Ml := fun b => (some (Value.int b), sR M0 0 σ, N)
noncomputable def fX5_isFenced (σ : Nat → Int32)  (x1 : Int32) : Int32 := (if (((σ 2) >>> (x1 &&& 31)) &&& 1) = 1 then 1 else 0)
theorem bX5_isFenced {Z : Zt} {E : Ec} {M0 : Mi} {σ : Nat → Int32} {N : Ml} (C : Ok 2 Z E cX5_isFenced 2 RX5 (some .boolean) 0)    (x1 : Int32)  : GT Z E 2 (finX5_isFenced M0 σ N) 0 [(0, .ref (zA Z 6 0)), (1, .int x1)] [] (sR M0 0 σ) N (some (fX5_isFenced σ x1)) := by
  unfold fX5_isFenced
  refine r_aload_n C dX5_isFenced_0 0 0 rfl rfl ?_
  refine gf_X5_7 C dX5_isFenced_1 ?_
  refine r_iconst (v := 2) C dX5_isFenced_4 (by decide) ?_
  refine ald_M (v := (σ 2)) C mI_0 (by decide) (sR_at _ _ _ _) dX5_isFenced_5 ?_
  refine r_iload_n C dX5_isFenced_6 1 1 rfl rfl ?_
  refine r_ishr C dX5_isFenced_7 ?_
  refine r_iconst (v := 1) C dX5_isFenced_8 (by decide) ?_
  refine r_iand C dX5_isFenced_9 ?_
  refine r_iconst (v := 1) C dX5_isFenced_10 (by decide) ?_
  refine r_st ?_
  refine r_ic_ne (tgt := 18) C dX5_isFenced_11 (by decide) (fun c1 => ?_) (fun c1 => ?_)
  · refine r_iconst (v := 0) C dX5_isFenced_18 (by decide) ?_
    exact r_zret C dX5_isFenced_19 (Or.inl rfl) rfl
  · refine r_iconst (v := 1) C dX5_isFenced_14 (by decide) ?_
    refine r_goto (tgt := 19) C dX5_isFenced_15 (by decide) ?_
    exact r_zret C dX5_isFenced_19 (Or.inr rfl) rfl
theorem zbX5_isFenced (σ : Nat → Int32) (x1 : Int32) : fX5_isFenced σ x1 = 0 ∨ fX5_isFenced σ x1 = 1 := by
  unfold fX5_isFenced; (repeat' split) <;> first | exact Or.inl rfl | exact Or.inr rfl
theorem mX5_isFenced (l : Launch) {Z : Zt} (hZ : Zok 2 Z) (M0 : Mi) (N : Ml) (σ : Nat → Int32) (x1 : Int32) : Ct 2 Z l yX5_isFenced cX5_isFenced 2 (some .boolean) 0 [.ref (zA Z 6 0), .int x1] (sR M0 0 σ) N (some (Value.int (fX5_isFenced σ x1)), sR M0 0 σ, N) :=
  metG (fin := (finX5_isFenced M0 σ N)) (by decide) (Nat.le_of_ble_eq_true rfl) (fun E _ C => bX5_isFenced C x1) rfl
theorem dX5_fences_0 : decode cX5_fences 0 = .ok (.aload_n 0, 1) := by decide +kernel
theorem dX5_fences_1 : decode cX5_fences 1 = .ok (.getfield 7, 3) := by decide +kernel
theorem dX5_fences_4 : decode cX5_fences 4 = .ok (.iconst 2, 1) := by decide +kernel
theorem dX5_fences_5 : decode cX5_fences 5 = .ok (.aload_n 0, 1) := by decide +kernel
theorem dX5_fences_6 : decode cX5_fences 6 = .ok (.getfield 7, 3) := by decide +kernel
theorem dX5_fences_9 : decode cX5_fences 9 = .ok (.iconst 2, 1) := by decide +kernel
theorem dX5_fences_10 : decode cX5_fences 10 = .ok (.iaload, 1) := by decide +kernel
theorem dX5_fences_11 : decode cX5_fences 11 = .ok (.iconst 1, 1) := by decide +kernel
theorem dX5_fences_12 : decode cX5_fences 12 = .ok (.iload_n 1, 1) := by decide +kernel
theorem dX5_fences_13 : decode cX5_fences 13 = .ok (.ishl, 1) := by decide +kernel
theorem dX5_fences_14 : decode cX5_fences 14 = .ok (.iconst (-1), 1) := by decide +kernel
theorem dX5_fences_15 : decode cX5_fences 15 = .ok (.ixor, 1) := by decide +kernel
theorem dX5_fences_16 : decode cX5_fences 16 = .ok (.iand, 1) := by decide +kernel
theorem dX5_fences_17 : decode cX5_fences 17 = .ok (.iload_n 2, 1) := by decide +kernel
theorem dX5_fences_18 : decode cX5_fences 18 = .ok (.iload_n 1, 1) := by decide +kernel
theorem dX5_fences_19 : decode cX5_fences 19 = .ok (.ishl, 1) := by decide +kernel
theorem dX5_fences_20 : decode cX5_fences 20 = .ok (.ior, 1) := by decide +kernel
theorem dX5_fences_21 : decode cX5_fences 21 = .ok (.iastore, 1) := by decide +kernel
theorem dX5_fences_22 : decode cX5_fences 22 = .ok (.return_, 1) := by decide +kernel
def finX5_fences (M0 : Mi) (N : Ml) : (Nat → Int32) → Option Value × Mi × Ml := fun b => (none, sR M0 0 (b), N)
noncomputable def fX5_fences   (σ : Nat → Int32) (x1 : Int32) (x2 : Int32) : Option ((Nat → Int32)) := (some (upd σ 2 (((σ 2) &&& ((1 <<< (x1 &&& 31)) ^^^ (-1))) ||| (x2 <<< (x1 &&& 31)))))
theorem bX5_fences {Z : Zt} {E : Ec} {M0 : Mi} {N : Ml} (C : Ok 2 Z E cX5_fences 3 RX5 none 0)    (σ : Nat → Int32) (x1 : Int32) (x2 : Int32)  : GT Z E 3 (finX5_fences M0 N) 0 [(0, .ref (zA Z 6 0)), (1, .int x1), (2, .int x2)] [] (sR M0 0 σ) N (fX5_fences σ x1 x2) := by
  unfold fX5_fences
  refine r_aload_n C dX5_fences_0 0 0 rfl rfl ?_
  refine gf_X5_7 C dX5_fences_1 ?_
  refine r_iconst (v := 2) C dX5_fences_4 (by decide) ?_
  refine r_aload_n C dX5_fences_5 0 0 rfl rfl ?_
  refine gf_X5_7 C dX5_fences_6 ?_
  refine r_iconst (v := 2) C dX5_fences_9 (by decide) ?_
  refine ald_M (v := (σ 2)) C mI_0 (by decide) (sR_at _ _ _ _) dX5_fences_10 ?_
  refine r_iconst (v := 1) C dX5_fences_11 (by decide) ?_
  refine r_iload_n C dX5_fences_12 1 1 rfl rfl ?_
  refine r_ishl C dX5_fences_13 ?_
  refine r_iconst (v := (-1)) C dX5_fences_14 (by decide) ?_
  refine r_ixor C dX5_fences_15 ?_
  refine r_iand C dX5_fences_16 ?_
  refine r_iload_n C dX5_fences_17 2 2 rfl rfl ?_
  refine r_iload_n C dX5_fences_18 1 1 rfl rfl ?_
  refine r_ishl C dX5_fences_19 ?_
  refine r_ior C dX5_fences_20 ?_
  refine ast_M (M' := (sR M0 0 (upd σ 2 (((σ 2) &&& ((1 <<< (x1 &&& 31)) ^^^ (-1))) ||| (x2 <<< (x1 &&& 31)))))) C mI_0 (by decide) (wM_sR _ _ _ _ _) dX5_fences_21 ?_
  exact r_vret C dX5_fences_22 rfl
theorem mX5_fences (l : Launch) {Z : Zt} (hZ : Zok 2 Z) (M0 : Mi) (N : Ml) (σ : Nat → Int32) (x1 : Int32) (x2 : Int32) (b : (Nat → Int32)) (hb : fX5_fences σ x1 x2 = some b) : Ct 2 Z l yX5_fences cX5_fences 3 none 0 [.ref (zA Z 6 0), .int x1, .int x2] (sR M0 0 σ) N (none, sR M0 0 (b), N) :=
  metG (fin := (finX5_fences M0 N)) (by decide) (Nat.le_of_ble_eq_true rfl) (fun E _ C => bX5_fences C σ x1 x2) hb
theorem dX5_fence_0 : decode cX5_fence 0 = .ok (.iload_n 1, 1) := by decide +kernel
theorem dX5_fence_1 : decode cX5_fence 1 = .ok (.invokestatic 62, 3) := by decide +kernel
theorem dX5_fence_4 : decode cX5_fence 4 = .ok (.ifCond .eq 13, 3) := by decide +kernel
theorem dX5_fence_7 : decode cX5_fence 7 = .ok (.iload_n 2, 1) := by decide +kernel
theorem dX5_fence_8 : decode cX5_fence 8 = .ok (.i2l, 1) := by decide +kernel
theorem dX5_fence_9 : decode cX5_fence 9 = .ok (.lconst 0, 1) := by decide +kernel
theorem dX5_fence_10 : decode cX5_fence 10 = .ok (.lconst 1, 1) := by decide +kernel
theorem dX5_fence_11 : decode cX5_fence 11 = .ok (.invokestatic 44, 3) := by decide +kernel
theorem dX5_fence_14 : decode cX5_fence 14 = .ok (.ifCond .ne 10, 3) := by decide +kernel
theorem dX5_fence_17 : decode cX5_fence 17 = .ok (.aload_n 0, 1) := by decide +kernel
theorem dX5_fence_18 : decode cX5_fence 18 = .ok (.ldc 41, 2) := by decide +kernel
theorem dX5_fence_20 : decode cX5_fence 20 = .ok (.invokevirtual 65, 3) := by decide +kernel
theorem dX5_fence_23 : decode cX5_fence 23 = .ok (.ireturn, 1) := by decide +kernel
theorem dX5_fence_24 : decode cX5_fence 24 = .ok (.aload_n 0, 1) := by decide +kernel
theorem dX5_fence_25 : decode cX5_fence 25 = .ok (.iload_n 1, 1) := by decide +kernel
theorem dX5_fence_26 : decode cX5_fence 26 = .ok (.invokevirtual 69, 3) := by decide +kernel
theorem dX5_fence_29 : decode cX5_fence 29 = .ok (.ifCond .eq 7, 3) := by decide +kernel
theorem dX5_fence_32 : decode cX5_fence 32 = .ok (.iconst 1, 1) := by decide +kernel
theorem dX5_fence_33 : decode cX5_fence 33 = .ok (.goto 4, 3) := by decide +kernel
theorem dX5_fence_36 : decode cX5_fence 36 = .ok (.iconst 0, 1) := by decide +kernel
theorem dX5_fence_37 : decode cX5_fence 37 = .ok (.istore_n 3, 1) := by decide +kernel
theorem dX5_fence_38 : decode cX5_fence 38 = .ok (.aload_n 0, 1) := by decide +kernel
theorem dX5_fence_39 : decode cX5_fence 39 = .ok (.iload_n 1, 1) := by decide +kernel
theorem dX5_fence_40 : decode cX5_fence 40 = .ok (.iload_n 2, 1) := by decide +kernel
theorem dX5_fence_41 : decode cX5_fence 41 = .ok (.invokevirtual 72, 3) := by decide +kernel
theorem dX5_fence_44 : decode cX5_fence 44 = .ok (.iload_n 3, 1) := by decide +kernel
theorem dX5_fence_45 : decode cX5_fence 45 = .ok (.ireturn, 1) := by decide +kernel
def finX5_fence (N : Ml) : Int32 × Mi → Option Value × Mi × Ml := fun b => (some (Value.int b.1), b.2, N)
noncomputable def fX5_fence_17   (M : Mi) : Option (Int32 × Mi) := (Option.bind (fX5_finds M (-1000000001)) (fun a2 => (some (a2.1, (a2.2)))))
theorem bX5_fence_17 {Z : Zt} {E : Ec} {N : Ml} (C : Ok 2 Z E cX5_fence 4 RX5 (some .int) 2)    (M : Mi)  : GT Z E 4 (finX5_fence N) 17 [(0, .ref (zA Z 6 0))] [] M N (fX5_fence_17 M) := by
  unfold fX5_fence_17
  refine r_aload_n C dX5_fence_17 0 0 rfl rfl ?_
  refine r_ldc (v := (-1000000001)) C dX5_fence_18 wd_859 ?_
  refine r_bind (fun a2 ha2 => ?_)
  refine r_callV (rest := []) (st2 := [.int a2.1]) C (mX5_finds (eL E) C.z M N (-1000000001) a2 ha2) lk_X5_65 (rvM C) (by decide) rfl rfl (Nat.le_of_ble_eq_true rfl) dX5_fence_20 rfl ?_
  exact r_iret C dX5_fence_23 rfl
noncomputable def fX5_fence_37   (M : Mi) (x1 : Int32) (x2 : Int32) (s0 : Int32) : Option (Int32 × Mi) := (Option.bind (fX5_fences (M 0) x1 x2) (fun a6 => (some (s0, (sR M 0 a6)))))
theorem bX5_fence_37 {Z : Zt} {E : Ec} {N : Ml} (C : Ok 2 Z E cX5_fence 4 RX5 (some .int) 2)    (M : Mi) (x1 : Int32) (x2 : Int32) (s0 : Int32)  : GT Z E 4 (finX5_fence N) 37 [(0, .ref (zA Z 6 0)), (1, .int x1), (2, .int x2)] [.int s0] M N (fX5_fence_37 M x1 x2 s0) := by
  unfold fX5_fence_37
  refine r_istore_n (lv' := [(3, .int s0), (0, .ref (zA Z 6 0)), (1, .int x1), (2, .int x2)]) C dX5_fence_37 3 rfl (by decide) rfl ?_
  refine r_aload_n C dX5_fence_38 0 1 rfl rfl ?_
  refine r_iload_n C dX5_fence_39 1 2 rfl rfl ?_
  refine r_iload_n C dX5_fence_40 2 3 rfl rfl ?_
  refine r_bind (fun a6 ha6 => ?_)
  refine r_callV (rest := []) (st2 := []) C (mX5_fences (eL E) C.z M _ (M 0) x1 x2 a6 ha6).selfW lk_X5_72 (rvM C) (by decide) rfl rfl (Nat.le_of_ble_eq_true rfl) dX5_fence_41 rfl ?_
  refine r_iload_n C dX5_fence_44 3 0 rfl rfl ?_
  exact r_iret C dX5_fence_45 rfl
noncomputable def fX5_fence   (M : Mi) (x1 : Int32) (x2 : Int32) : Option (Int32 × Mi) := (if (fX5_isCell x1) = 0 then (fX5_fence_17 M) else (if (fX5_in (Int32.toInt64 x2) 0 1) = 0 then (fX5_fence_17 M) else (fX5_fence_37 M x1 x2 (if (fX5_isFenced (M 0) x1) = 0 then 0 else 1 : Int32))))
theorem bX5_fence {Z : Zt} {E : Ec} {N : Ml} (C : Ok 2 Z E cX5_fence 4 RX5 (some .int) 2)    (M : Mi) (x1 : Int32) (x2 : Int32)  : GT Z E 4 (finX5_fence N) 0 [(0, .ref (zA Z 6 0)), (1, .int x1), (2, .int x2)] [] M N (fX5_fence M x1 x2) := by
  unfold fX5_fence
  refine r_iload_n C dX5_fence_0 1 1 rfl rfl ?_
  refine r_callS (rest := []) (st2 := [.int (fX5_isCell x1)]) C (mX5_isCell (eL E) C.z _ _ x1) lk_X5_62 (by decide) rfl rfl (Nat.le_of_ble_eq_true rfl) dX5_fence_1 rfl ?_
  refine r_if_eq (tgt := 17) C dX5_fence_4 (by decide) (fun c1 => ?_) (fun c1 => ?_)
  · refine r_lv [0] (lv' := [(0, .ref (zA Z 6 0))]) rfl ?_
    exact bX5_fence_17 C M
  · refine r_iload_n C dX5_fence_7 2 2 rfl rfl ?_
    refine r_i2l C dX5_fence_8 ?_
    refine r_lconst (v := 0) C dX5_fence_9 (by decide) ?_
    refine r_lconst (v := 1) C dX5_fence_10 (by decide) ?_
    refine r_callS (rest := []) (st2 := [.int (fX5_in (Int32.toInt64 x2) 0 1)]) C (mX5_in (eL E) C.z _ _ (Int32.toInt64 x2) 0 1) lk_X5_44 (by decide) rfl rfl (Nat.le_of_ble_eq_true rfl) dX5_fence_11 rfl ?_
    refine r_if_ne (tgt := 24) C dX5_fence_14 (by decide) (fun c3 => ?_) (fun c3 => ?_)
    · refine r_aload_n C dX5_fence_24 0 0 rfl rfl ?_
      refine r_iload_n C dX5_fence_25 1 1 rfl rfl ?_
      refine r_callV (rest := []) (st2 := [.int (fX5_isFenced (M 0) x1)]) C (mX5_isFenced (eL E) C.z M _ (M 0) x1).selfR lk_X5_69 (rvM C) (by decide) rfl rfl (Nat.le_of_ble_eq_true rfl) dX5_fence_26 rfl ?_
      refine r_sel (tj := 37) (sj := [.int (if (fX5_isFenced (M 0) x1) = 0 then 0 else 1 : Int32)]) ?_ (fun k5 => ?_)
      · exact bX5_fence_37 C M x1 x2 (if (fX5_isFenced (M 0) x1) = 0 then 0 else 1 : Int32)
      · refine r_same (P := (fX5_isFenced (M 0) x1) = 0) ?_
        refine r_if_eq (tgt := 36) C dX5_fence_29 (by decide) (fun c4 => ?_) (fun c4 => ?_)
        · refine r_iconst (v := 0) C dX5_fence_36 (by decide) ?_
          exact r_stk (if_pos c4) k5
        · refine r_iconst (v := 1) C dX5_fence_32 (by decide) ?_
          refine r_goto (tgt := 37) C dX5_fence_33 (by decide) ?_
          exact r_stk (if_neg c4) k5
    · refine r_lv [0] (lv' := [(0, .ref (zA Z 6 0))]) rfl ?_
      exact bX5_fence_17 C M
theorem mX5_fence (l : Launch) {Z : Zt} (hZ : Zok 2 Z) (M : Mi) (N : Ml) (x1 : Int32) (x2 : Int32) (b : Int32 × Mi) (hb : fX5_fence M x1 x2 = some b) : Ct 2 Z l yX5_fence cX5_fence 4 (some .int) 2 [.ref (zA Z 6 0), .int x1, .int x2] M N (some (Value.int b.1), b.2, N) :=
  metG (fin := (finX5_fence N)) (by decide) (Nat.le_of_ble_eq_true rfl) (fun E _ C => bX5_fence C M x1 x2) hb
theorem dX5_spot_0 : decode cX5_spot 0 = .ok (.iload_n 1, 1) := by decide +kernel
theorem dX5_spot_1 : decode cX5_spot 1 = .ok (.i2l, 1) := by decide +kernel
theorem dX5_spot_2 : decode cX5_spot 2 = .ok (.lconst 0, 1) := by decide +kernel
theorem dX5_spot_3 : decode cX5_spot 3 = .ok (.ldc2_w 76, 3) := by decide +kernel
theorem dX5_spot_6 : decode cX5_spot 6 = .ok (.invokestatic 44, 3) := by decide +kernel
theorem dX5_spot_9 : decode cX5_spot 9 = .ok (.ifCond .eq 21, 3) := by decide +kernel
theorem dX5_spot_12 : decode cX5_spot 12 = .ok (.iload_n 2, 1) := by decide +kernel
theorem dX5_spot_13 : decode cX5_spot 13 = .ok (.invokestatic 62, 3) := by decide +kernel
theorem dX5_spot_16 : decode cX5_spot 16 = .ok (.ifCond .eq 14, 3) := by decide +kernel
theorem dX5_spot_19 : decode cX5_spot 19 = .ok (.aload_n 0, 1) := by decide +kernel
theorem dX5_spot_20 : decode cX5_spot 20 = .ok (.iconst 3, 1) := by decide +kernel
theorem dX5_spot_21 : decode cX5_spot 21 = .ok (.iload_n 1, 1) := by decide +kernel
theorem dX5_spot_22 : decode cX5_spot 22 = .ok (.iadd, 1) := by decide +kernel
theorem dX5_spot_23 : decode cX5_spot 23 = .ok (.iload_n 2, 1) := by decide +kernel
theorem dX5_spot_24 : decode cX5_spot 24 = .ok (.invokevirtual 78, 3) := by decide +kernel
theorem dX5_spot_27 : decode cX5_spot 27 = .ok (.goto 9, 3) := by decide +kernel
theorem dX5_spot_30 : decode cX5_spot 30 = .ok (.aload_n 0, 1) := by decide +kernel
theorem dX5_spot_31 : decode cX5_spot 31 = .ok (.ldc 41, 2) := by decide +kernel
theorem dX5_spot_33 : decode cX5_spot 33 = .ok (.invokevirtual 65, 3) := by decide +kernel
theorem dX5_spot_36 : decode cX5_spot 36 = .ok (.ireturn, 1) := by decide +kernel
def finX5_spot (N : Ml) : Int32 × Mi → Option Value × Mi × Ml := fun b => (some (Value.int b.1), b.2, N)
noncomputable def fX5_spot_30   (M : Mi) : Option (Int32 × Mi) := (Option.bind (fX5_finds M (-1000000001)) (fun a2 => (some (a2.1, (a2.2)))))
theorem bX5_spot_30 {Z : Zt} {E : Ec} {N : Ml} (C : Ok 2 Z E cX5_spot 3 RX5 (some .int) 2)    (M : Mi)  : GT Z E 3 (finX5_spot N) 30 [(0, .ref (zA Z 6 0))] [] M N (fX5_spot_30 M) := by
  unfold fX5_spot_30
  refine r_aload_n C dX5_spot_30 0 0 rfl rfl ?_
  refine r_ldc (v := (-1000000001)) C dX5_spot_31 wd_859 ?_
  refine r_bind (fun a2 ha2 => ?_)
  refine r_callV (rest := []) (st2 := [.int a2.1]) C (mX5_finds (eL E) C.z M N (-1000000001) a2 ha2) lk_X5_65 (rvM C) (by decide) rfl rfl (Nat.le_of_ble_eq_true rfl) dX5_spot_33 rfl ?_
  exact r_iret C dX5_spot_36 rfl
noncomputable def fX5_spot   (M : Mi) (x1 : Int32) (x2 : Int32) : Option (Int32 × Mi) := (if (fX5_in (Int32.toInt64 x1) 0 2) = 0 then (fX5_spot_30 M) else (if (fX5_isCell x2) = 0 then (fX5_spot_30 M) else (Option.bind (fX5_becomes (M 0) (3 + x1) x2) (fun a4 => (some (a4.1, (sR M 0 (a4.2))))))))
theorem bX5_spot {Z : Zt} {E : Ec} {N : Ml} (C : Ok 2 Z E cX5_spot 3 RX5 (some .int) 2)    (M : Mi) (x1 : Int32) (x2 : Int32)  : GT Z E 3 (finX5_spot N) 0 [(0, .ref (zA Z 6 0)), (1, .int x1), (2, .int x2)] [] M N (fX5_spot M x1 x2) := by
  unfold fX5_spot
  refine r_iload_n C dX5_spot_0 1 1 rfl rfl ?_
  refine r_i2l C dX5_spot_1 ?_
  refine r_lconst (v := 0) C dX5_spot_2 (by decide) ?_
  refine r_ldc2 (v := 2) C dX5_spot_3 wd_876 ?_
  refine r_callS (rest := []) (st2 := [.int (fX5_in (Int32.toInt64 x1) 0 2)]) C (mX5_in (eL E) C.z _ _ (Int32.toInt64 x1) 0 2) lk_X5_44 (by decide) rfl rfl (Nat.le_of_ble_eq_true rfl) dX5_spot_6 rfl ?_
  refine r_if_eq (tgt := 30) C dX5_spot_9 (by decide) (fun c1 => ?_) (fun c1 => ?_)
  · refine r_lv [0] (lv' := [(0, .ref (zA Z 6 0))]) rfl ?_
    exact bX5_spot_30 C M
  · refine r_iload_n C dX5_spot_12 2 2 rfl rfl ?_
    refine r_callS (rest := []) (st2 := [.int (fX5_isCell x2)]) C (mX5_isCell (eL E) C.z _ _ x2) lk_X5_62 (by decide) rfl rfl (Nat.le_of_ble_eq_true rfl) dX5_spot_13 rfl ?_
    refine r_if_eq (tgt := 30) C dX5_spot_16 (by decide) (fun c3 => ?_) (fun c3 => ?_)
    · refine r_lv [0] (lv' := [(0, .ref (zA Z 6 0))]) rfl ?_
      exact bX5_spot_30 C M
    · refine r_aload_n C dX5_spot_19 0 0 rfl rfl ?_
      refine r_iconst (v := 3) C dX5_spot_20 (by decide) ?_
      refine r_iload_n C dX5_spot_21 1 1 rfl rfl ?_
      refine r_iadd C dX5_spot_22 ?_
      refine r_iload_n C dX5_spot_23 2 2 rfl rfl ?_
      refine r_bind (fun a4 ha4 => ?_)
      refine r_callV (rest := []) (st2 := [.int a4.1]) C (mX5_becomes (eL E) C.z M _ (M 0) (3 + x1) x2 a4 ha4).selfW lk_X5_78 (rvM C) (by decide) rfl rfl (Nat.le_of_ble_eq_true rfl) dX5_spot_24 rfl ?_
      refine r_goto (tgt := 36) C dX5_spot_27 (by decide) ?_
      exact r_iret C dX5_spot_36 rfl
theorem mX5_spot (l : Launch) {Z : Zt} (hZ : Zok 2 Z) (M : Mi) (N : Ml) (x1 : Int32) (x2 : Int32) (b : Int32 × Mi) (hb : fX5_spot M x1 x2 = some b) : Ct 2 Z l yX5_spot cX5_spot 3 (some .int) 2 [.ref (zA Z 6 0), .int x1, .int x2] M N (some (Value.int b.1), b.2, N) :=
  metG (fin := (finX5_spot N)) (by decide) (Nat.le_of_ble_eq_true rfl) (fun E _ C => bX5_spot C M x1 x2) hb
theorem dX5_rain_0 : decode cX5_rain 0 = .ok (.iload_n 1, 1) := by decide +kernel
theorem dX5_rain_1 : decode cX5_rain 1 = .ok (.i2l, 1) := by decide +kernel
theorem dX5_rain_2 : decode cX5_rain 2 = .ok (.lconst 0, 1) := by decide +kernel
theorem dX5_rain_3 : decode cX5_rain 3 = .ok (.ldc2_w 81, 3) := by decide +kernel
theorem dX5_rain_6 : decode cX5_rain 6 = .ok (.invokestatic 44, 3) := by decide +kernel
theorem dX5_rain_9 : decode cX5_rain 9 = .ok (.ifCond .eq 13, 3) := by decide +kernel
theorem dX5_rain_12 : decode cX5_rain 12 = .ok (.aload_n 0, 1) := by decide +kernel
theorem dX5_rain_13 : decode cX5_rain 13 = .ok (.bipush 6, 2) := by decide +kernel
theorem dX5_rain_15 : decode cX5_rain 15 = .ok (.iload_n 1, 1) := by decide +kernel
theorem dX5_rain_16 : decode cX5_rain 16 = .ok (.invokevirtual 78, 3) := by decide +kernel
theorem dX5_rain_19 : decode cX5_rain 19 = .ok (.goto 9, 3) := by decide +kernel
theorem dX5_rain_22 : decode cX5_rain 22 = .ok (.aload_n 0, 1) := by decide +kernel
theorem dX5_rain_23 : decode cX5_rain 23 = .ok (.ldc 41, 2) := by decide +kernel
theorem dX5_rain_25 : decode cX5_rain 25 = .ok (.invokevirtual 65, 3) := by decide +kernel
theorem dX5_rain_28 : decode cX5_rain 28 = .ok (.ireturn, 1) := by decide +kernel
def finX5_rain (N : Ml) : Int32 × Mi → Option Value × Mi × Ml := fun b => (some (Value.int b.1), b.2, N)
noncomputable def fX5_rain   (M : Mi) (x1 : Int32) : Option (Int32 × Mi) := (if (fX5_in (Int32.toInt64 x1) 0 16777215) = 0 then (Option.bind (fX5_finds M (-1000000001)) (fun a2 => (some (a2.1, (a2.2))))) else (Option.bind (fX5_becomes (M 0) 6 x1) (fun a3 => (some (a3.1, (sR M 0 (a3.2)))))))
theorem bX5_rain {Z : Zt} {E : Ec} {N : Ml} (C : Ok 2 Z E cX5_rain 2 RX5 (some .int) 1)    (M : Mi) (x1 : Int32)  : GT Z E 2 (finX5_rain N) 0 [(0, .ref (zA Z 6 0)), (1, .int x1)] [] M N (fX5_rain M x1) := by
  unfold fX5_rain
  refine r_iload_n C dX5_rain_0 1 1 rfl rfl ?_
  refine r_i2l C dX5_rain_1 ?_
  refine r_lconst (v := 0) C dX5_rain_2 (by decide) ?_
  refine r_ldc2 (v := 16777215) C dX5_rain_3 wd_885 ?_
  refine r_callS (rest := []) (st2 := [.int (fX5_in (Int32.toInt64 x1) 0 16777215)]) C (mX5_in (eL E) C.z _ _ (Int32.toInt64 x1) 0 16777215) lk_X5_44 (by decide) rfl rfl (Nat.le_of_ble_eq_true rfl) dX5_rain_6 rfl ?_
  refine r_if_eq (tgt := 22) C dX5_rain_9 (by decide) (fun c1 => ?_) (fun c1 => ?_)
  · refine r_aload_n C dX5_rain_22 0 0 rfl rfl ?_
    refine r_ldc (v := (-1000000001)) C dX5_rain_23 wd_859 ?_
    refine r_bind (fun a2 ha2 => ?_)
    refine r_callV (rest := []) (st2 := [.int a2.1]) C (mX5_finds (eL E) C.z M N (-1000000001) a2 ha2) lk_X5_65 (rvM C) (by decide) rfl rfl (Nat.le_of_ble_eq_true rfl) dX5_rain_25 rfl ?_
    exact r_iret C dX5_rain_28 rfl
  · refine r_aload_n C dX5_rain_12 0 0 rfl rfl ?_
    refine r_bipush (v := 6) C dX5_rain_13 (by decide) ?_
    refine r_iload_n C dX5_rain_15 1 1 rfl rfl ?_
    refine r_bind (fun a3 ha3 => ?_)
    refine r_callV (rest := []) (st2 := [.int a3.1]) C (mX5_becomes (eL E) C.z M _ (M 0) 6 x1 a3 ha3).selfW lk_X5_78 (rvM C) (by decide) rfl rfl (Nat.le_of_ble_eq_true rfl) dX5_rain_16 rfl ?_
    refine r_goto (tgt := 28) C dX5_rain_19 (by decide) ?_
    exact r_iret C dX5_rain_28 rfl
theorem mX5_rain (l : Launch) {Z : Zt} (hZ : Zok 2 Z) (M : Mi) (N : Ml) (x1 : Int32) (b : Int32 × Mi) (hb : fX5_rain M x1 = some b) : Ct 2 Z l yX5_rain cX5_rain 2 (some .int) 1 [.ref (zA Z 6 0), .int x1] M N (some (Value.int b.1), b.2, N) :=
  metG (fin := (finX5_rain N)) (by decide) (Nat.le_of_ble_eq_true rfl) (fun E _ C => bX5_rain C M x1) hb
theorem dX5_those_0 : decode cX5_those 0 = .ok (.iconst 0, 1) := by decide +kernel
theorem dX5_those_1 : decode cX5_those 1 = .ok (.istore_n 2, 1) := by decide +kernel
theorem dX5_those_2 : decode cX5_those 2 = .ok (.iconst 0, 1) := by decide +kernel
theorem dX5_those_3 : decode cX5_those 3 = .ok (.istore_n 3, 1) := by decide +kernel
theorem dX5_those_4 : decode cX5_those 4 = .ok (.iload_n 3, 1) := by decide +kernel
theorem dX5_those_5 : decode cX5_those 5 = .ok (.aload_n 0, 1) := by decide +kernel
theorem dX5_those_6 : decode cX5_those 6 = .ok (.getfield 7, 3) := by decide +kernel
theorem dX5_those_9 : decode cX5_those 9 = .ok (.iconst 1, 1) := by decide +kernel
theorem dX5_those_10 : decode cX5_those 10 = .ok (.iaload, 1) := by decide +kernel
theorem dX5_those_11 : decode cX5_those 11 = .ok (.if_icmp .ge 29, 3) := by decide +kernel
theorem dX5_those_14 : decode cX5_those 14 = .ok (.iload_n 2, 1) := by decide +kernel
theorem dX5_those_15 : decode cX5_those 15 = .ok (.aload_n 0, 1) := by decide +kernel
theorem dX5_those_16 : decode cX5_those 16 = .ok (.iload_n 3, 1) := by decide +kernel
theorem dX5_those_17 : decode cX5_those 17 = .ok (.iconst 1, 1) := by decide +kernel
theorem dX5_those_18 : decode cX5_those 18 = .ok (.invokevirtual 83, 3) := by decide +kernel
theorem dX5_those_21 : decode cX5_those 21 = .ok (.iload_n 1, 1) := by decide +kernel
theorem dX5_those_22 : decode cX5_those 22 = .ok (.if_icmp .ne 9, 3) := by decide +kernel
theorem dX5_those_25 : decode cX5_those 25 = .ok (.iconst 1, 1) := by decide +kernel
theorem dX5_those_26 : decode cX5_those 26 = .ok (.iload_n 3, 1) := by decide +kernel
theorem dX5_those_27 : decode cX5_those 27 = .ok (.ishl, 1) := by decide +kernel
theorem dX5_those_28 : decode cX5_those 28 = .ok (.goto 4, 3) := by decide +kernel
theorem dX5_those_31 : decode cX5_those 31 = .ok (.iconst 0, 1) := by decide +kernel
theorem dX5_those_32 : decode cX5_those 32 = .ok (.ior, 1) := by decide +kernel
theorem dX5_those_33 : decode cX5_those 33 = .ok (.istore_n 2, 1) := by decide +kernel
theorem dX5_those_34 : decode cX5_those 34 = .ok (.iinc 3 1, 3) := by decide +kernel
theorem dX5_those_37 : decode cX5_those 37 = .ok (.goto (-33), 3) := by decide +kernel
theorem dX5_those_40 : decode cX5_those 40 = .ok (.iload_n 2, 1) := by decide +kernel
theorem dX5_those_41 : decode cX5_those 41 = .ok (.ireturn, 1) := by decide +kernel
def finX5_those (M0 : Mi) (σ : Nat → Int32) (N : Ml) : Int32 → Option Value × Mi × Ml := fun b => (some (Value.int b), sR M0 0 σ, N)
noncomputable def fX5_those_4 (σ : Nat → Int32)  : Nat → Int32 → Int32 → Int32 → Option (Int32)
  | 0 => fun _ _ _ => none
  | n + 1 => fun x1 x2 x3 => (if (σ 1) ≤ x3 then (some x2) else (Option.bind (fX5_its σ x3 1) (fun a2 => ((fX5_those_4 σ n) x1 (x2 ||| (if a2 = x1 then (1 <<< (x3 &&& 31)) else 0 : Int32)) (x3 + 1)))))
theorem bX5_those_4 {Z : Zt} {E : Ec} {M0 : Mi} {σ : Nat → Int32} {N : Ml} (C : Ok 2 Z E cX5_those 4 RX5 (some .int) 2)    : ∀ (n : Nat) (x1 : Int32) (x2 : Int32) (x3 : Int32), GT Z E 4 (finX5_those M0 σ N) 4 [(0, .ref (zA Z 6 0)), (1, .int x1), (2, .int x2), (3, .int x3)] [] (sR M0 0 σ) N (fX5_those_4 σ n x1 x2 x3) := by
  intro n
  induction n with
  | zero => intro x1 x2 x3; exact r_none
  | succ n ih =>
    intro x1 x2 x3
    rw [fX5_those_4]
    refine r_iload_n C dX5_those_4 3 3 rfl rfl ?_
    refine r_aload_n C dX5_those_5 0 0 rfl rfl ?_
    refine gf_X5_7 C dX5_those_6 ?_
    refine r_iconst (v := 1) C dX5_those_9 (by decide) ?_
    refine ald_M (v := (σ 1)) C mI_0 (by decide) (sR_at _ _ _ _) dX5_those_10 ?_
    refine r_ic_ge (tgt := 40) C dX5_those_11 (by decide) (fun c1 => ?_) (fun c1 => ?_)
    · refine r_iload_n C dX5_those_40 2 2 rfl rfl ?_
      exact r_iret C dX5_those_41 rfl
    · refine r_iload_n C dX5_those_14 2 2 rfl rfl ?_
      refine r_aload_n C dX5_those_15 0 0 rfl rfl ?_
      refine r_iload_n C dX5_those_16 3 3 rfl rfl ?_
      refine r_iconst (v := 1) C dX5_those_17 (by decide) ?_
      refine r_bind (fun a2 ha2 => ?_)
      refine r_callV (rest := [.int x2]) (st2 := [.int a2, .int x2]) C (mX5_its (eL E) C.z _ _ σ x3 1 a2 ha2) lk_X5_83 (rvM C) (by decide) rfl rfl (Nat.le_of_ble_eq_true rfl) dX5_those_18 rfl ?_
      refine r_iload_n C dX5_those_21 1 1 rfl rfl ?_
      refine r_sel (tj := 32) (sj := [.int (if a2 = x1 then (1 <<< (x3 &&& 31)) else 0 : Int32), .int x2]) ?_ (fun k4 => ?_)
      · refine r_ior C dX5_those_32 ?_
        refine r_istore_n (lv' := [(2, .int (x2 ||| (if a2 = x1 then (1 <<< (x3 &&& 31)) else 0 : Int32))), (0, .ref (zA Z 6 0)), (1, .int x1), (3, .int x3)]) C dX5_those_33 2 rfl (by decide) rfl ?_
        refine r_iinc (v := (x3 + 1)) (lv' := [(3, .int (x3 + 1)), (2, .int (x2 ||| (if a2 = x1 then (1 <<< (x3 &&& 31)) else 0 : Int32))), (0, .ref (zA Z 6 0)), (1, .int x1)]) C dX5_those_34 3 rfl rfl (by decide) rfl ?_
        refine r_goto (tgt := 4) C dX5_those_37 (by decide) ?_
        refine r_lv [2, 3, 1, 0] (lv' := [(0, .ref (zA Z 6 0)), (1, .int x1), (2, .int (x2 ||| (if a2 = x1 then (1 <<< (x3 &&& 31)) else 0 : Int32))), (3, .int (x3 + 1))]) rfl ?_
        exact ih x1 (x2 ||| (if a2 = x1 then (1 <<< (x3 &&& 31)) else 0 : Int32)) (x3 + 1)
      · refine r_same (P := a2 = x1) ?_
        refine r_ic_ne (tgt := 31) C dX5_those_22 (by decide) (fun c3 => ?_) (fun c3 => ?_)
        · refine r_iconst (v := 0) C dX5_those_31 (by decide) ?_
          exact r_stk (if_neg c3) k4
        · refine r_iconst (v := 1) C dX5_those_25 (by decide) ?_
          refine r_iload_n C dX5_those_26 3 3 rfl rfl ?_
          refine r_ishl C dX5_those_27 ?_
          refine r_goto (tgt := 32) C dX5_those_28 (by decide) ?_
          exact r_stk (if_pos c3) k4
noncomputable def fX5_those (σ : Nat → Int32)  (x1 : Int32) : Option (Int32) := (fX5_those_4 σ fu x1 0 0)
theorem bX5_those {Z : Zt} {E : Ec} {M0 : Mi} {σ : Nat → Int32} {N : Ml} (C : Ok 2 Z E cX5_those 4 RX5 (some .int) 2)    (x1 : Int32)  : GT Z E 4 (finX5_those M0 σ N) 0 [(0, .ref (zA Z 6 0)), (1, .int x1)] [] (sR M0 0 σ) N (fX5_those σ x1) := by
  unfold fX5_those
  refine r_iconst (v := 0) C dX5_those_0 (by decide) ?_
  refine r_istore_n (lv' := [(2, .int 0), (0, .ref (zA Z 6 0)), (1, .int x1)]) C dX5_those_1 2 rfl (by decide) rfl ?_
  refine r_iconst (v := 0) C dX5_those_2 (by decide) ?_
  refine r_istore_n (lv' := [(3, .int 0), (2, .int 0), (0, .ref (zA Z 6 0)), (1, .int x1)]) C dX5_those_3 3 rfl (by decide) rfl ?_
  refine r_lv [2, 3, 1, 0] (lv' := [(0, .ref (zA Z 6 0)), (1, .int x1), (2, .int 0), (3, .int 0)]) rfl ?_
  exact bX5_those_4 C fu x1 0 0
theorem mX5_those (l : Launch) {Z : Zt} (hZ : Zok 2 Z) (M0 : Mi) (N : Ml) (σ : Nat → Int32) (x1 : Int32) (b : Int32) (hb : fX5_those σ x1 = some b) : Ct 2 Z l yX5_those cX5_those 4 (some .int) 2 [.ref (zA Z 6 0), .int x1] (sR M0 0 σ) N (some (Value.int b), sR M0 0 σ, N) :=
  metG (fin := (finX5_those M0 σ N)) (by decide) (Nat.le_of_ble_eq_true rfl) (fun E _ C => bX5_those C x1) hb
theorem dX5_booksIn_0 : decode cX5_booksIn 0 = .ok (.iconst 0, 1) := by decide +kernel
theorem dX5_booksIn_1 : decode cX5_booksIn 1 = .ok (.istore_n 2, 1) := by decide +kernel
theorem dX5_booksIn_2 : decode cX5_booksIn 2 = .ok (.iconst 0, 1) := by decide +kernel
theorem dX5_booksIn_3 : decode cX5_booksIn 3 = .ok (.istore_n 3, 1) := by decide +kernel
theorem dX5_booksIn_4 : decode cX5_booksIn 4 = .ok (.iload_n 3, 1) := by decide +kernel
theorem dX5_booksIn_5 : decode cX5_booksIn 5 = .ok (.aload_n 0, 1) := by decide +kernel
theorem dX5_booksIn_6 : decode cX5_booksIn 6 = .ok (.getfield 7, 3) := by decide +kernel
theorem dX5_booksIn_9 : decode cX5_booksIn 9 = .ok (.iconst 1, 1) := by decide +kernel
theorem dX5_booksIn_10 : decode cX5_booksIn 10 = .ok (.iaload, 1) := by decide +kernel
theorem dX5_booksIn_11 : decode cX5_booksIn 11 = .ok (.if_icmp .ge 32, 3) := by decide +kernel
theorem dX5_booksIn_14 : decode cX5_booksIn 14 = .ok (.iload_n 2, 1) := by decide +kernel
theorem dX5_booksIn_15 : decode cX5_booksIn 15 = .ok (.aload_n 0, 1) := by decide +kernel
theorem dX5_booksIn_16 : decode cX5_booksIn 16 = .ok (.iload_n 3, 1) := by decide +kernel
theorem dX5_booksIn_17 : decode cX5_booksIn 17 = .ok (.iconst 1, 1) := by decide +kernel
theorem dX5_booksIn_18 : decode cX5_booksIn 18 = .ok (.invokevirtual 83, 3) := by decide +kernel
theorem dX5_booksIn_21 : decode cX5_booksIn 21 = .ok (.iload_n 1, 1) := by decide +kernel
theorem dX5_booksIn_22 : decode cX5_booksIn 22 = .ok (.if_icmp .ne 12, 3) := by decide +kernel
theorem dX5_booksIn_25 : decode cX5_booksIn 25 = .ok (.aload_n 0, 1) := by decide +kernel
theorem dX5_booksIn_26 : decode cX5_booksIn 26 = .ok (.iload_n 3, 1) := by decide +kernel
theorem dX5_booksIn_27 : decode cX5_booksIn 27 = .ok (.iconst 2, 1) := by decide +kernel
theorem dX5_booksIn_28 : decode cX5_booksIn 28 = .ok (.invokevirtual 83, 3) := by decide +kernel
theorem dX5_booksIn_31 : decode cX5_booksIn 31 = .ok (.goto 4, 3) := by decide +kernel
theorem dX5_booksIn_34 : decode cX5_booksIn 34 = .ok (.iconst 0, 1) := by decide +kernel
theorem dX5_booksIn_35 : decode cX5_booksIn 35 = .ok (.ior, 1) := by decide +kernel
theorem dX5_booksIn_36 : decode cX5_booksIn 36 = .ok (.istore_n 2, 1) := by decide +kernel
theorem dX5_booksIn_37 : decode cX5_booksIn 37 = .ok (.iinc 3 1, 3) := by decide +kernel
theorem dX5_booksIn_40 : decode cX5_booksIn 40 = .ok (.goto (-36), 3) := by decide +kernel
theorem dX5_booksIn_43 : decode cX5_booksIn 43 = .ok (.iload_n 2, 1) := by decide +kernel
theorem dX5_booksIn_44 : decode cX5_booksIn 44 = .ok (.ireturn, 1) := by decide +kernel
def finX5_booksIn (M0 : Mi) (σ : Nat → Int32) (N : Ml) : Int32 → Option Value × Mi × Ml := fun b => (some (Value.int b), sR M0 0 σ, N)
noncomputable def fX5_booksIn_4 (σ : Nat → Int32)  : Nat → Int32 → Int32 → Int32 → Option (Int32)
  | 0 => fun _ _ _ => none
  | n + 1 => fun x1 x2 x3 => (if (σ 1) ≤ x3 then (some x2) else (Option.bind (fX5_its σ x3 1) (fun a2 => (if a2 = x1 then (Option.bind (fX5_its σ x3 2) (fun a4 => ((fX5_booksIn_4 σ n) x1 (x2 ||| a4) (x3 + 1)))) else ((fX5_booksIn_4 σ n) x1 (x2 ||| 0) (x3 + 1))))))
theorem bX5_booksIn_4 {Z : Zt} {E : Ec} {M0 : Mi} {σ : Nat → Int32} {N : Ml} (C : Ok 2 Z E cX5_booksIn 4 RX5 (some .int) 2)    : ∀ (n : Nat) (x1 : Int32) (x2 : Int32) (x3 : Int32), GT Z E 4 (finX5_booksIn M0 σ N) 4 [(0, .ref (zA Z 6 0)), (1, .int x1), (2, .int x2), (3, .int x3)] [] (sR M0 0 σ) N (fX5_booksIn_4 σ n x1 x2 x3) := by
  intro n
  induction n with
  | zero => intro x1 x2 x3; exact r_none
  | succ n ih =>
    intro x1 x2 x3
    rw [fX5_booksIn_4]
    refine r_iload_n C dX5_booksIn_4 3 3 rfl rfl ?_
    refine r_aload_n C dX5_booksIn_5 0 0 rfl rfl ?_
    refine gf_X5_7 C dX5_booksIn_6 ?_
    refine r_iconst (v := 1) C dX5_booksIn_9 (by decide) ?_
    refine ald_M (v := (σ 1)) C mI_0 (by decide) (sR_at _ _ _ _) dX5_booksIn_10 ?_
    refine r_ic_ge (tgt := 43) C dX5_booksIn_11 (by decide) (fun c1 => ?_) (fun c1 => ?_)
    · refine r_iload_n C dX5_booksIn_43 2 2 rfl rfl ?_
      exact r_iret C dX5_booksIn_44 rfl
    · refine r_iload_n C dX5_booksIn_14 2 2 rfl rfl ?_
      refine r_aload_n C dX5_booksIn_15 0 0 rfl rfl ?_
      refine r_iload_n C dX5_booksIn_16 3 3 rfl rfl ?_
      refine r_iconst (v := 1) C dX5_booksIn_17 (by decide) ?_
      refine r_bind (fun a2 ha2 => ?_)
      refine r_callV (rest := [.int x2]) (st2 := [.int a2, .int x2]) C (mX5_its (eL E) C.z _ _ σ x3 1 a2 ha2) lk_X5_83 (rvM C) (by decide) rfl rfl (Nat.le_of_ble_eq_true rfl) dX5_booksIn_18 rfl ?_
      refine r_iload_n C dX5_booksIn_21 1 1 rfl rfl ?_
      refine r_ic_ne (tgt := 34) C dX5_booksIn_22 (by decide) (fun c3 => ?_) (fun c3 => ?_)
      · refine r_iconst (v := 0) C dX5_booksIn_34 (by decide) ?_
        refine r_ior C dX5_booksIn_35 ?_
        refine r_istore_n (lv' := [(2, .int (x2 ||| 0)), (0, .ref (zA Z 6 0)), (1, .int x1), (3, .int x3)]) C dX5_booksIn_36 2 rfl (by decide) rfl ?_
        refine r_iinc (v := (x3 + 1)) (lv' := [(3, .int (x3 + 1)), (2, .int (x2 ||| 0)), (0, .ref (zA Z 6 0)), (1, .int x1)]) C dX5_booksIn_37 3 rfl rfl (by decide) rfl ?_
        refine r_goto (tgt := 4) C dX5_booksIn_40 (by decide) ?_
        refine r_lv [2, 3, 1, 0] (lv' := [(0, .ref (zA Z 6 0)), (1, .int x1), (2, .int (x2 ||| 0)), (3, .int (x3 + 1))]) rfl ?_
        exact ih x1 (x2 ||| 0) (x3 + 1)
      · refine r_aload_n C dX5_booksIn_25 0 0 rfl rfl ?_
        refine r_iload_n C dX5_booksIn_26 3 3 rfl rfl ?_
        refine r_iconst (v := 2) C dX5_booksIn_27 (by decide) ?_
        refine r_bind (fun a4 ha4 => ?_)
        refine r_callV (rest := [.int x2]) (st2 := [.int a4, .int x2]) C (mX5_its (eL E) C.z _ _ σ x3 2 a4 ha4) lk_X5_83 (rvM C) (by decide) rfl rfl (Nat.le_of_ble_eq_true rfl) dX5_booksIn_28 rfl ?_
        refine r_goto (tgt := 35) C dX5_booksIn_31 (by decide) ?_
        refine r_ior C dX5_booksIn_35 ?_
        refine r_istore_n (lv' := [(2, .int (x2 ||| a4)), (0, .ref (zA Z 6 0)), (1, .int x1), (3, .int x3)]) C dX5_booksIn_36 2 rfl (by decide) rfl ?_
        refine r_iinc (v := (x3 + 1)) (lv' := [(3, .int (x3 + 1)), (2, .int (x2 ||| a4)), (0, .ref (zA Z 6 0)), (1, .int x1)]) C dX5_booksIn_37 3 rfl rfl (by decide) rfl ?_
        refine r_goto (tgt := 4) C dX5_booksIn_40 (by decide) ?_
        refine r_lv [2, 3, 1, 0] (lv' := [(0, .ref (zA Z 6 0)), (1, .int x1), (2, .int (x2 ||| a4)), (3, .int (x3 + 1))]) rfl ?_
        exact ih x1 (x2 ||| a4) (x3 + 1)
noncomputable def fX5_booksIn (σ : Nat → Int32)  (x1 : Int32) : Option (Int32) := (fX5_booksIn_4 σ fu x1 0 0)
theorem bX5_booksIn {Z : Zt} {E : Ec} {M0 : Mi} {σ : Nat → Int32} {N : Ml} (C : Ok 2 Z E cX5_booksIn 4 RX5 (some .int) 2)    (x1 : Int32)  : GT Z E 4 (finX5_booksIn M0 σ N) 0 [(0, .ref (zA Z 6 0)), (1, .int x1)] [] (sR M0 0 σ) N (fX5_booksIn σ x1) := by
  unfold fX5_booksIn
  refine r_iconst (v := 0) C dX5_booksIn_0 (by decide) ?_
  refine r_istore_n (lv' := [(2, .int 0), (0, .ref (zA Z 6 0)), (1, .int x1)]) C dX5_booksIn_1 2 rfl (by decide) rfl ?_
  refine r_iconst (v := 0) C dX5_booksIn_2 (by decide) ?_
  refine r_istore_n (lv' := [(3, .int 0), (2, .int 0), (0, .ref (zA Z 6 0)), (1, .int x1)]) C dX5_booksIn_3 3 rfl (by decide) rfl ?_
  refine r_lv [2, 3, 1, 0] (lv' := [(0, .ref (zA Z 6 0)), (1, .int x1), (2, .int 0), (3, .int 0)]) rfl ?_
  exact bX5_booksIn_4 C fu x1 0 0
theorem mX5_booksIn (l : Launch) {Z : Zt} (hZ : Zok 2 Z) (M0 : Mi) (N : Ml) (σ : Nat → Int32) (x1 : Int32) (b : Int32) (hb : fX5_booksIn σ x1 = some b) : Ct 2 Z l yX5_booksIn cX5_booksIn 4 (some .int) 2 [.ref (zA Z 6 0), .int x1] (sR M0 0 σ) N (some (Value.int b), sR M0 0 σ, N) :=
  metG (fin := (finX5_booksIn M0 σ N)) (by decide) (Nat.le_of_ble_eq_true rfl) (fun E _ C => bX5_booksIn C x1) hb
theorem dX5_cell_0 : decode cX5_cell 0 = .ok (.iload_n 1, 1) := by decide +kernel
theorem dX5_cell_1 : decode cX5_cell 1 = .ok (.invokestatic 62, 3) := by decide +kernel
theorem dX5_cell_4 : decode cX5_cell 4 = .ok (.ifCond .eq 15, 3) := by decide +kernel
theorem dX5_cell_7 : decode cX5_cell 7 = .ok (.iload_n 2, 1) := by decide +kernel
theorem dX5_cell_8 : decode cX5_cell 8 = .ok (.i2l, 1) := by decide +kernel
theorem dX5_cell_9 : decode cX5_cell 9 = .ok (.lconst 0, 1) := by decide +kernel
theorem dX5_cell_10 : decode cX5_cell 10 = .ok (.ldc2_w 76, 3) := by decide +kernel
theorem dX5_cell_13 : decode cX5_cell 13 = .ok (.invokestatic 44, 3) := by decide +kernel
theorem dX5_cell_16 : decode cX5_cell 16 = .ok (.ifCond .ne 10, 3) := by decide +kernel
theorem dX5_cell_19 : decode cX5_cell 19 = .ok (.aload_n 0, 1) := by decide +kernel
theorem dX5_cell_20 : decode cX5_cell 20 = .ok (.ldc 41, 2) := by decide +kernel
theorem dX5_cell_22 : decode cX5_cell 22 = .ok (.invokevirtual 65, 3) := by decide +kernel
theorem dX5_cell_25 : decode cX5_cell 25 = .ok (.ireturn, 1) := by decide +kernel
theorem dX5_cell_26 : decode cX5_cell 26 = .ok (.iload_n 2, 1) := by decide +kernel
theorem dX5_cell_27 : decode cX5_cell 27 = .ok (.ifCond .ne 19, 3) := by decide +kernel
theorem dX5_cell_30 : decode cX5_cell 30 = .ok (.aload_n 0, 1) := by decide +kernel
theorem dX5_cell_31 : decode cX5_cell 31 = .ok (.iload_n 1, 1) := by decide +kernel
theorem dX5_cell_32 : decode cX5_cell 32 = .ok (.invokevirtual 69, 3) := by decide +kernel
theorem dX5_cell_35 : decode cX5_cell 35 = .ok (.ifCond .eq 7, 3) := by decide +kernel
theorem dX5_cell_38 : decode cX5_cell 38 = .ok (.iconst 1, 1) := by decide +kernel
theorem dX5_cell_39 : decode cX5_cell 39 = .ok (.goto 25, 3) := by decide +kernel
theorem dX5_cell_42 : decode cX5_cell 42 = .ok (.iconst 0, 1) := by decide +kernel
theorem dX5_cell_43 : decode cX5_cell 43 = .ok (.goto 21, 3) := by decide +kernel
theorem dX5_cell_46 : decode cX5_cell 46 = .ok (.iload_n 2, 1) := by decide +kernel
theorem dX5_cell_47 : decode cX5_cell 47 = .ok (.iconst 1, 1) := by decide +kernel
theorem dX5_cell_48 : decode cX5_cell 48 = .ok (.if_icmp .ne 11, 3) := by decide +kernel
theorem dX5_cell_51 : decode cX5_cell 51 = .ok (.aload_n 0, 1) := by decide +kernel
theorem dX5_cell_52 : decode cX5_cell 52 = .ok (.iload_n 1, 1) := by decide +kernel
theorem dX5_cell_53 : decode cX5_cell 53 = .ok (.invokevirtual 86, 3) := by decide +kernel
theorem dX5_cell_56 : decode cX5_cell 56 = .ok (.goto 8, 3) := by decide +kernel
theorem dX5_cell_59 : decode cX5_cell 59 = .ok (.aload_n 0, 1) := by decide +kernel
theorem dX5_cell_60 : decode cX5_cell 60 = .ok (.iload_n 1, 1) := by decide +kernel
theorem dX5_cell_61 : decode cX5_cell 61 = .ok (.invokevirtual 89, 3) := by decide +kernel
theorem dX5_cell_64 : decode cX5_cell 64 = .ok (.ireturn, 1) := by decide +kernel
def finX5_cell (N : Ml) : Int32 × Mi → Option Value × Mi × Ml := fun b => (some (Value.int b.1), b.2, N)
noncomputable def fX5_cell_19   (M : Mi) : Option (Int32 × Mi) := (Option.bind (fX5_finds M (-1000000001)) (fun a2 => (some (a2.1, (a2.2)))))
theorem bX5_cell_19 {Z : Zt} {E : Ec} {N : Ml} (C : Ok 2 Z E cX5_cell 3 RX5 (some .int) 3)    (M : Mi)  : GT Z E 3 (finX5_cell N) 19 [(0, .ref (zA Z 6 0))] [] M N (fX5_cell_19 M) := by
  unfold fX5_cell_19
  refine r_aload_n C dX5_cell_19 0 0 rfl rfl ?_
  refine r_ldc (v := (-1000000001)) C dX5_cell_20 wd_859 ?_
  refine r_bind (fun a2 ha2 => ?_)
  refine r_callV (rest := []) (st2 := [.int a2.1]) C (mX5_finds (eL E) C.z M N (-1000000001) a2 ha2) lk_X5_65 (rvM C) (by decide) rfl rfl (Nat.le_of_ble_eq_true rfl) dX5_cell_22 rfl ?_
  exact r_iret C dX5_cell_25 rfl
noncomputable def fX5_cell   (M : Mi) (x1 : Int32) (x2 : Int32) : Option (Int32 × Mi) := (if (fX5_isCell x1) = 0 then (fX5_cell_19 M) else (if (fX5_in (Int32.toInt64 x2) 0 2) = 0 then (fX5_cell_19 M) else (if x2 = 0 then (if (fX5_isFenced (M 0) x1) = 0 then (some (0, M)) else (some (1, M))) else (if x2 = 1 then (Option.bind (fX5_those (M 0) x1) (fun a7 => (some (a7, M)))) else (Option.bind (fX5_booksIn (M 0) x1) (fun a6 => (some (a6, M))))))))
theorem bX5_cell {Z : Zt} {E : Ec} {N : Ml} (C : Ok 2 Z E cX5_cell 3 RX5 (some .int) 3)    (M : Mi) (x1 : Int32) (x2 : Int32)  : GT Z E 3 (finX5_cell N) 0 [(0, .ref (zA Z 6 0)), (1, .int x1), (2, .int x2)] [] M N (fX5_cell M x1 x2) := by
  unfold fX5_cell
  refine r_iload_n C dX5_cell_0 1 1 rfl rfl ?_
  refine r_callS (rest := []) (st2 := [.int (fX5_isCell x1)]) C (mX5_isCell (eL E) C.z _ _ x1) lk_X5_62 (by decide) rfl rfl (Nat.le_of_ble_eq_true rfl) dX5_cell_1 rfl ?_
  refine r_if_eq (tgt := 19) C dX5_cell_4 (by decide) (fun c1 => ?_) (fun c1 => ?_)
  · refine r_lv [0] (lv' := [(0, .ref (zA Z 6 0))]) rfl ?_
    exact bX5_cell_19 C M
  · refine r_iload_n C dX5_cell_7 2 2 rfl rfl ?_
    refine r_i2l C dX5_cell_8 ?_
    refine r_lconst (v := 0) C dX5_cell_9 (by decide) ?_
    refine r_ldc2 (v := 2) C dX5_cell_10 wd_876 ?_
    refine r_callS (rest := []) (st2 := [.int (fX5_in (Int32.toInt64 x2) 0 2)]) C (mX5_in (eL E) C.z _ _ (Int32.toInt64 x2) 0 2) lk_X5_44 (by decide) rfl rfl (Nat.le_of_ble_eq_true rfl) dX5_cell_13 rfl ?_
    refine r_if_ne (tgt := 26) C dX5_cell_16 (by decide) (fun c3 => ?_) (fun c3 => ?_)
    · refine r_iload_n C dX5_cell_26 2 2 rfl rfl ?_
      refine r_if_ne (tgt := 46) C dX5_cell_27 (by decide) (fun c4 => ?_) (fun c4 => ?_)
      · refine r_iload_n C dX5_cell_46 2 2 rfl rfl ?_
        refine r_iconst (v := 1) C dX5_cell_47 (by decide) ?_
        refine r_ic_ne (tgt := 59) C dX5_cell_48 (by decide) (fun c5 => ?_) (fun c5 => ?_)
        · refine r_aload_n C dX5_cell_59 0 0 rfl rfl ?_
          refine r_iload_n C dX5_cell_60 1 1 rfl rfl ?_
          refine r_bind (fun a6 ha6 => ?_)
          refine r_callV (rest := []) (st2 := [.int a6]) C (mX5_booksIn (eL E) C.z M _ (M 0) x1 a6 ha6).selfR lk_X5_89 (rvM C) (by decide) rfl rfl (Nat.le_of_ble_eq_true rfl) dX5_cell_61 rfl ?_
          exact r_iret C dX5_cell_64 rfl
        · refine r_aload_n C dX5_cell_51 0 0 rfl rfl ?_
          refine r_iload_n C dX5_cell_52 1 1 rfl rfl ?_
          refine r_bind (fun a7 ha7 => ?_)
          refine r_callV (rest := []) (st2 := [.int a7]) C (mX5_those (eL E) C.z M _ (M 0) x1 a7 ha7).selfR lk_X5_86 (rvM C) (by decide) rfl rfl (Nat.le_of_ble_eq_true rfl) dX5_cell_53 rfl ?_
          refine r_goto (tgt := 64) C dX5_cell_56 (by decide) ?_
          exact r_iret C dX5_cell_64 rfl
      · refine r_aload_n C dX5_cell_30 0 0 rfl rfl ?_
        refine r_iload_n C dX5_cell_31 1 1 rfl rfl ?_
        refine r_callV (rest := []) (st2 := [.int (fX5_isFenced (M 0) x1)]) C (mX5_isFenced (eL E) C.z M _ (M 0) x1).selfR lk_X5_69 (rvM C) (by decide) rfl rfl (Nat.le_of_ble_eq_true rfl) dX5_cell_32 rfl ?_
        refine r_if_eq (tgt := 42) C dX5_cell_35 (by decide) (fun c8 => ?_) (fun c8 => ?_)
        · refine r_iconst (v := 0) C dX5_cell_42 (by decide) ?_
          refine r_goto (tgt := 64) C dX5_cell_43 (by decide) ?_
          exact r_iret C dX5_cell_64 rfl
        · refine r_iconst (v := 1) C dX5_cell_38 (by decide) ?_
          refine r_goto (tgt := 64) C dX5_cell_39 (by decide) ?_
          exact r_iret C dX5_cell_64 rfl
    · refine r_lv [0] (lv' := [(0, .ref (zA Z 6 0))]) rfl ?_
      exact bX5_cell_19 C M
theorem mX5_cell (l : Launch) {Z : Zt} (hZ : Zok 2 Z) (M : Mi) (N : Ml) (x1 : Int32) (x2 : Int32) (b : Int32 × Mi) (hb : fX5_cell M x1 x2 = some b) : Ct 2 Z l yX5_cell cX5_cell 3 (some .int) 3 [.ref (zA Z 6 0), .int x1, .int x2] M N (some (Value.int b.1), b.2, N) :=
  metG (fin := (finX5_cell N)) (by decide) (Nat.le_of_ble_eq_true rfl) (fun E _ C => bX5_cell C M x1 x2) hb
theorem dX5_clock_0 : decode cX5_clock 0 = .ok (.aload_n 0, 1) := by decide +kernel
theorem dX5_clock_1 : decode cX5_clock 1 = .ok (.getfield 7, 3) := by decide +kernel
theorem dX5_clock_4 : decode cX5_clock 4 = .ok (.iconst 0, 1) := by decide +kernel
theorem dX5_clock_5 : decode cX5_clock 5 = .ok (.iaload, 1) := by decide +kernel
theorem dX5_clock_6 : decode cX5_clock 6 = .ok (.bipush 24, 2) := by decide +kernel
theorem dX5_clock_8 : decode cX5_clock 8 = .ok (.irem, 1) := by decide +kernel
theorem dX5_clock_9 : decode cX5_clock 9 = .ok (.ireturn, 1) := by decide +kernel
def finX5_clock (M0 : Mi) (σ : Nat → Int32) (N : Ml) : Int32 → Option Value × Mi × Ml := fun b => (some (Value.int b), sR M0 0 σ, N)
noncomputable def fX5_clock (σ : Nat → Int32)   : Int32 := ((σ 0) - (σ 0) / 24 * 24)
theorem bX5_clock {Z : Zt} {E : Ec} {M0 : Mi} {σ : Nat → Int32} {N : Ml} (C : Ok 2 Z E cX5_clock 1 RX5 (some .int) 0)      : GT Z E 1 (finX5_clock M0 σ N) 0 [(0, .ref (zA Z 6 0))] [] (sR M0 0 σ) N (some (fX5_clock σ )) := by
  unfold fX5_clock
  refine r_aload_n C dX5_clock_0 0 0 rfl rfl ?_
  refine gf_X5_7 C dX5_clock_1 ?_
  refine r_iconst (v := 0) C dX5_clock_4 (by decide) ?_
  refine ald_M (v := (σ 0)) C mI_0 (by decide) (sR_at _ _ _ _) dX5_clock_5 ?_
  refine r_bipush (v := 24) C dX5_clock_6 (by decide) ?_
  refine r_irem C dX5_clock_8 (by decide) ?_
  exact r_iret C dX5_clock_9 rfl
theorem mX5_clock (l : Launch) {Z : Zt} (hZ : Zok 2 Z) (M0 : Mi) (N : Ml) (σ : Nat → Int32) : Ct 2 Z l yX5_clock cX5_clock 1 (some .int) 0 [.ref (zA Z 6 0)] (sR M0 0 σ) N (some (Value.int (fX5_clock σ)), sR M0 0 σ, N) :=
  metG (fin := (finX5_clock M0 σ N)) (by decide) (Nat.le_of_ble_eq_true rfl) (fun E _ C => bX5_clock C) rfl
theorem dX5_rains_0 : decode cX5_rains 0 = .ok (.aload_n 0, 1) := by decide +kernel
theorem dX5_rains_1 : decode cX5_rains 1 = .ok (.getfield 7, 3) := by decide +kernel
theorem dX5_rains_4 : decode cX5_rains 4 = .ok (.bipush 6, 2) := by decide +kernel
theorem dX5_rains_6 : decode cX5_rains 6 = .ok (.iaload, 1) := by decide +kernel
theorem dX5_rains_7 : decode cX5_rains 7 = .ok (.aload_n 0, 1) := by decide +kernel
theorem dX5_rains_8 : decode cX5_rains 8 = .ok (.invokevirtual 92, 3) := by decide +kernel
theorem dX5_rains_11 : decode cX5_rains 11 = .ok (.ishr, 1) := by decide +kernel
theorem dX5_rains_12 : decode cX5_rains 12 = .ok (.iconst 1, 1) := by decide +kernel
theorem dX5_rains_13 : decode cX5_rains 13 = .ok (.iand, 1) := by decide +kernel
theorem dX5_rains_14 : decode cX5_rains 14 = .ok (.iconst 1, 1) := by decide +kernel
theorem dX5_rains_15 : decode cX5_rains 15 = .ok (.if_icmp .ne 7, 3) := by decide +kernel
theorem dX5_rains_18 : decode cX5_rains 18 = .ok (.iconst 1, 1) := by decide +kernel
theorem dX5_rains_19 : decode cX5_rains 19 = .ok (.goto 4, 3) := by decide +kernel
theorem dX5_rains_22 : decode cX5_rains 22 = .ok (.iconst 0, 1) := by decide +kernel
theorem dX5_rains_23 : decode cX5_rains 23 = .ok (.ireturn, 1) := by decide +kernel
def finX5_rains (M0 : Mi) (σ : Nat → Int32) (N : Ml) : Int32 → Option Value × Mi × Ml := fun b => (some (Value.int b), sR M0 0 σ, N)
noncomputable def fX5_rains (σ : Nat → Int32)   : Int32 := (if (((σ 6) >>> ((fX5_clock σ) &&& 31)) &&& 1) = 1 then 1 else 0)
theorem bX5_rains {Z : Zt} {E : Ec} {M0 : Mi} {σ : Nat → Int32} {N : Ml} (C : Ok 2 Z E cX5_rains 1 RX5 (some .boolean) 1)      : GT Z E 1 (finX5_rains M0 σ N) 0 [(0, .ref (zA Z 6 0))] [] (sR M0 0 σ) N (some (fX5_rains σ )) := by
  unfold fX5_rains
  refine r_aload_n C dX5_rains_0 0 0 rfl rfl ?_
  refine gf_X5_7 C dX5_rains_1 ?_
  refine r_bipush (v := 6) C dX5_rains_4 (by decide) ?_
  refine ald_M (v := (σ 6)) C mI_0 (by decide) (sR_at _ _ _ _) dX5_rains_6 ?_
  refine r_aload_n C dX5_rains_7 0 0 rfl rfl ?_
  refine r_callV (rest := [.int (σ 6)]) (st2 := [.int (fX5_clock σ), .int (σ 6)]) C (mX5_clock (eL E) C.z _ _ σ) lk_X5_92 (rvM C) (by decide) rfl rfl (Nat.le_of_ble_eq_true rfl) dX5_rains_8 rfl ?_
  refine r_ishr C dX5_rains_11 ?_
  refine r_iconst (v := 1) C dX5_rains_12 (by decide) ?_
  refine r_iand C dX5_rains_13 ?_
  refine r_iconst (v := 1) C dX5_rains_14 (by decide) ?_
  refine r_st ?_
  refine r_ic_ne (tgt := 22) C dX5_rains_15 (by decide) (fun c1 => ?_) (fun c1 => ?_)
  · refine r_iconst (v := 0) C dX5_rains_22 (by decide) ?_
    exact r_zret C dX5_rains_23 (Or.inl rfl) rfl
  · refine r_iconst (v := 1) C dX5_rains_18 (by decide) ?_
    refine r_goto (tgt := 23) C dX5_rains_19 (by decide) ?_
    exact r_zret C dX5_rains_23 (Or.inr rfl) rfl
theorem zbX5_rains (σ : Nat → Int32) : fX5_rains σ = 0 ∨ fX5_rains σ = 1 := by
  unfold fX5_rains; (repeat' split) <;> first | exact Or.inl rfl | exact Or.inr rfl
theorem mX5_rains (l : Launch) {Z : Zt} (hZ : Zok 2 Z) (M0 : Mi) (N : Ml) (σ : Nat → Int32) : Ct 2 Z l yX5_rains cX5_rains 1 (some .boolean) 1 [.ref (zA Z 6 0)] (sR M0 0 σ) N (some (Value.int (fX5_rains σ)), sR M0 0 σ, N) :=
  metG (fin := (finX5_rains M0 σ N)) (by decide) (Nat.le_of_ble_eq_true rfl) (fun E _ C => bX5_rains C) rfl
theorem dX5_lawful_0 : decode cX5_lawful 0 = .ok (.aload_n 0, 1) := by decide +kernel
theorem dX5_lawful_1 : decode cX5_lawful 1 = .ok (.invokevirtual 92, 3) := by decide +kernel
theorem dX5_lawful_4 : decode cX5_lawful 4 = .ok (.i2l, 1) := by decide +kernel
theorem dX5_lawful_5 : decode cX5_lawful 5 = .ok (.ldc2_w 96, 3) := by decide +kernel
theorem dX5_lawful_8 : decode cX5_lawful 8 = .ok (.ldc2_w 98, 3) := by decide +kernel
theorem dX5_lawful_11 : decode cX5_lawful 11 = .ok (.invokestatic 44, 3) := by decide +kernel
theorem dX5_lawful_14 : decode cX5_lawful 14 = .ok (.ifCond .eq 12, 3) := by decide +kernel
theorem dX5_lawful_17 : decode cX5_lawful 17 = .ok (.aload_n 0, 1) := by decide +kernel
theorem dX5_lawful_18 : decode cX5_lawful 18 = .ok (.getfield 7, 3) := by decide +kernel
theorem dX5_lawful_21 : decode cX5_lawful 21 = .ok (.iconst 4, 1) := by decide +kernel
theorem dX5_lawful_22 : decode cX5_lawful 22 = .ok (.iaload, 1) := by decide +kernel
theorem dX5_lawful_23 : decode cX5_lawful 23 = .ok (.goto 9, 3) := by decide +kernel
theorem dX5_lawful_26 : decode cX5_lawful 26 = .ok (.aload_n 0, 1) := by decide +kernel
theorem dX5_lawful_27 : decode cX5_lawful 27 = .ok (.getfield 7, 3) := by decide +kernel
theorem dX5_lawful_30 : decode cX5_lawful 30 = .ok (.iconst 3, 1) := by decide +kernel
theorem dX5_lawful_31 : decode cX5_lawful 31 = .ok (.iaload, 1) := by decide +kernel
theorem dX5_lawful_32 : decode cX5_lawful 32 = .ok (.ireturn, 1) := by decide +kernel
def finX5_lawful (M0 : Mi) (σ : Nat → Int32) (N : Ml) : Int32 → Option Value × Mi × Ml := fun b => (some (Value.int b), sR M0 0 σ, N)
noncomputable def fX5_lawful (σ : Nat → Int32)   : Int32 := (if (fX5_in (Int32.toInt64 (fX5_clock σ)) 10 15) = 0 then (σ 3) else (σ 4))
theorem bX5_lawful {Z : Zt} {E : Ec} {M0 : Mi} {σ : Nat → Int32} {N : Ml} (C : Ok 2 Z E cX5_lawful 1 RX5 (some .int) 1)      : GT Z E 1 (finX5_lawful M0 σ N) 0 [(0, .ref (zA Z 6 0))] [] (sR M0 0 σ) N (some (fX5_lawful σ )) := by
  unfold fX5_lawful
  refine r_aload_n C dX5_lawful_0 0 0 rfl rfl ?_
  refine r_callV (rest := []) (st2 := [.int (fX5_clock σ)]) C (mX5_clock (eL E) C.z _ _ σ) lk_X5_92 (rvM C) (by decide) rfl rfl (Nat.le_of_ble_eq_true rfl) dX5_lawful_1 rfl ?_
  refine r_i2l C dX5_lawful_4 ?_
  refine r_ldc2 (v := 10) C dX5_lawful_5 wd_942 ?_
  refine r_ldc2 (v := 15) C dX5_lawful_8 wd_943 ?_
  refine r_callS (rest := []) (st2 := [.int (fX5_in (Int32.toInt64 (fX5_clock σ)) 10 15)]) C (mX5_in (eL E) C.z _ _ (Int32.toInt64 (fX5_clock σ)) 10 15) lk_X5_44 (by decide) rfl rfl (Nat.le_of_ble_eq_true rfl) dX5_lawful_11 rfl ?_
  refine r_st ?_
  refine r_if_eq (tgt := 26) C dX5_lawful_14 (by decide) (fun c1 => ?_) (fun c1 => ?_)
  · refine r_aload_n C dX5_lawful_26 0 0 rfl rfl ?_
    refine gf_X5_7 C dX5_lawful_27 ?_
    refine r_iconst (v := 3) C dX5_lawful_30 (by decide) ?_
    refine ald_M (v := (σ 3)) C mI_0 (by decide) (sR_at _ _ _ _) dX5_lawful_31 ?_
    exact r_iret C dX5_lawful_32 rfl
  · refine r_aload_n C dX5_lawful_17 0 0 rfl rfl ?_
    refine gf_X5_7 C dX5_lawful_18 ?_
    refine r_iconst (v := 4) C dX5_lawful_21 (by decide) ?_
    refine ald_M (v := (σ 4)) C mI_0 (by decide) (sR_at _ _ _ _) dX5_lawful_22 ?_
    refine r_goto (tgt := 32) C dX5_lawful_23 (by decide) ?_
    exact r_iret C dX5_lawful_32 rfl
theorem mX5_lawful (l : Launch) {Z : Zt} (hZ : Zok 2 Z) (M0 : Mi) (N : Ml) (σ : Nat → Int32) : Ct 2 Z l yX5_lawful cX5_lawful 1 (some .int) 1 [.ref (zA Z 6 0)] (sR M0 0 σ) N (some (Value.int (fX5_lawful σ)), sR M0 0 σ, N) :=
  metG (fin := (finX5_lawful M0 σ N)) (by decide) (Nat.le_of_ble_eq_true rfl) (fun E _ C => bX5_lawful C) rfl
theorem dX5_aimOf_0 : decode cX5_aimOf 0 = .ok (.aload_n 0, 1) := by decide +kernel
theorem dX5_aimOf_1 : decode cX5_aimOf 1 = .ok (.iload_n 1, 1) := by decide +kernel
theorem dX5_aimOf_2 : decode cX5_aimOf 2 = .ok (.iconst 0, 1) := by decide +kernel
theorem dX5_aimOf_3 : decode cX5_aimOf 3 = .ok (.invokevirtual 83, 3) := by decide +kernel
theorem dX5_aimOf_6 : decode cX5_aimOf 6 = .ok (.tableswitch 104 2 5 #[30, 81, 56, 35], 30) := by decide +kernel
theorem dX5_aimOf_36 : decode cX5_aimOf 36 = .ok (.aload_n 0, 1) := by decide +kernel
theorem dX5_aimOf_37 : decode cX5_aimOf 37 = .ok (.invokevirtual 100, 3) := by decide +kernel
theorem dX5_aimOf_40 : decode cX5_aimOf 40 = .ok (.ireturn, 1) := by decide +kernel
theorem dX5_aimOf_41 : decode cX5_aimOf 41 = .ok (.aload_n 0, 1) := by decide +kernel
theorem dX5_aimOf_42 : decode cX5_aimOf 42 = .ok (.invokevirtual 103, 3) := by decide +kernel
theorem dX5_aimOf_45 : decode cX5_aimOf 45 = .ok (.ifCond .eq 12, 3) := by decide +kernel
theorem dX5_aimOf_48 : decode cX5_aimOf 48 = .ok (.aload_n 0, 1) := by decide +kernel
theorem dX5_aimOf_49 : decode cX5_aimOf 49 = .ok (.getfield 7, 3) := by decide +kernel
theorem dX5_aimOf_52 : decode cX5_aimOf 52 = .ok (.iconst 5, 1) := by decide +kernel
theorem dX5_aimOf_53 : decode cX5_aimOf 53 = .ok (.iaload, 1) := by decide +kernel
theorem dX5_aimOf_54 : decode cX5_aimOf 54 = .ok (.goto 7, 3) := by decide +kernel
theorem dX5_aimOf_57 : decode cX5_aimOf 57 = .ok (.aload_n 0, 1) := by decide +kernel
theorem dX5_aimOf_58 : decode cX5_aimOf 58 = .ok (.invokevirtual 100, 3) := by decide +kernel
theorem dX5_aimOf_61 : decode cX5_aimOf 61 = .ok (.ireturn, 1) := by decide +kernel
theorem dX5_aimOf_62 : decode cX5_aimOf 62 = .ok (.aload_n 0, 1) := by decide +kernel
theorem dX5_aimOf_63 : decode cX5_aimOf 63 = .ok (.invokevirtual 92, 3) := by decide +kernel
theorem dX5_aimOf_66 : decode cX5_aimOf 66 = .ok (.bipush 20, 2) := by decide +kernel
theorem dX5_aimOf_68 : decode cX5_aimOf 68 = .ok (.if_icmp .lt 12, 3) := by decide +kernel
theorem dX5_aimOf_71 : decode cX5_aimOf 71 = .ok (.aload_n 0, 1) := by decide +kernel
theorem dX5_aimOf_72 : decode cX5_aimOf 72 = .ok (.getfield 7, 3) := by decide +kernel
theorem dX5_aimOf_75 : decode cX5_aimOf 75 = .ok (.iconst 5, 1) := by decide +kernel
theorem dX5_aimOf_76 : decode cX5_aimOf 76 = .ok (.iaload, 1) := by decide +kernel
theorem dX5_aimOf_77 : decode cX5_aimOf 77 = .ok (.goto 9, 3) := by decide +kernel
theorem dX5_aimOf_80 : decode cX5_aimOf 80 = .ok (.aload_n 0, 1) := by decide +kernel
theorem dX5_aimOf_81 : decode cX5_aimOf 81 = .ok (.getfield 7, 3) := by decide +kernel
theorem dX5_aimOf_84 : decode cX5_aimOf 84 = .ok (.iconst 3, 1) := by decide +kernel
theorem dX5_aimOf_85 : decode cX5_aimOf 85 = .ok (.iaload, 1) := by decide +kernel
theorem dX5_aimOf_86 : decode cX5_aimOf 86 = .ok (.ireturn, 1) := by decide +kernel
theorem dX5_aimOf_87 : decode cX5_aimOf 87 = .ok (.aload_n 0, 1) := by decide +kernel
theorem dX5_aimOf_88 : decode cX5_aimOf 88 = .ok (.invokevirtual 103, 3) := by decide +kernel
theorem dX5_aimOf_91 : decode cX5_aimOf 91 = .ok (.ifCond .eq 12, 3) := by decide +kernel
theorem dX5_aimOf_94 : decode cX5_aimOf 94 = .ok (.aload_n 0, 1) := by decide +kernel
theorem dX5_aimOf_95 : decode cX5_aimOf 95 = .ok (.getfield 7, 3) := by decide +kernel
theorem dX5_aimOf_98 : decode cX5_aimOf 98 = .ok (.iconst 3, 1) := by decide +kernel
theorem dX5_aimOf_99 : decode cX5_aimOf 99 = .ok (.iaload, 1) := by decide +kernel
theorem dX5_aimOf_100 : decode cX5_aimOf 100 = .ok (.goto 9, 3) := by decide +kernel
theorem dX5_aimOf_103 : decode cX5_aimOf 103 = .ok (.aload_n 0, 1) := by decide +kernel
theorem dX5_aimOf_104 : decode cX5_aimOf 104 = .ok (.iload_n 1, 1) := by decide +kernel
theorem dX5_aimOf_105 : decode cX5_aimOf 105 = .ok (.iconst 1, 1) := by decide +kernel
theorem dX5_aimOf_106 : decode cX5_aimOf 106 = .ok (.invokevirtual 83, 3) := by decide +kernel
theorem dX5_aimOf_109 : decode cX5_aimOf 109 = .ok (.ireturn, 1) := by decide +kernel
theorem dX5_aimOf_110 : decode cX5_aimOf 110 = .ok (.aload_n 0, 1) := by decide +kernel
theorem dX5_aimOf_111 : decode cX5_aimOf 111 = .ok (.getfield 7, 3) := by decide +kernel
theorem dX5_aimOf_114 : decode cX5_aimOf 114 = .ok (.iconst 3, 1) := by decide +kernel
theorem dX5_aimOf_115 : decode cX5_aimOf 115 = .ok (.iaload, 1) := by decide +kernel
theorem dX5_aimOf_116 : decode cX5_aimOf 116 = .ok (.ireturn, 1) := by decide +kernel
def finX5_aimOf (M0 : Mi) (σ : Nat → Int32) (N : Ml) : Int32 → Option Value × Mi × Ml := fun b => (some (Value.int b), sR M0 0 σ, N)
noncomputable def fX5_aimOf (σ : Nat → Int32)  (x1 : Int32) : Option (Int32) := (Option.bind (fX5_its σ x1 0) (fun a1 => (if a1 = 2 then (some (fX5_lawful σ)) else (if a1 = 3 then (if (fX5_rains σ) = 0 then (Option.bind (fX5_its σ x1 1) (fun a5 => (some a5))) else (some (σ 3))) else (if a1 = 4 then (if (fX5_clock σ) < 20 then (some (σ 3)) else (some (σ 5))) else (if a1 = 5 then (if (fX5_rains σ) = 0 then (some (fX5_lawful σ)) else (some (σ 5))) else (some (σ 3))))))))
theorem bX5_aimOf {Z : Zt} {E : Ec} {M0 : Mi} {σ : Nat → Int32} {N : Ml} (C : Ok 2 Z E cX5_aimOf 2 RX5 (some .int) 2)    (x1 : Int32)  : GT Z E 2 (finX5_aimOf M0 σ N) 0 [(0, .ref (zA Z 6 0)), (1, .int x1)] [] (sR M0 0 σ) N (fX5_aimOf σ x1) := by
  unfold fX5_aimOf
  refine r_aload_n C dX5_aimOf_0 0 0 rfl rfl ?_
  refine r_iload_n C dX5_aimOf_1 1 1 rfl rfl ?_
  refine r_iconst (v := 0) C dX5_aimOf_2 (by decide) ?_
  refine r_bind (fun a1 ha1 => ?_)
  refine r_callV (rest := []) (st2 := [.int a1]) C (mX5_its (eL E) C.z _ _ σ x1 0 a1 ha1) lk_X5_83 (rvM C) (by decide) rfl rfl (Nat.le_of_ble_eq_true rfl) dX5_aimOf_3 rfl ?_
  refine r_tsw (k := 2) (tgt := 36) C dX5_aimOf_6 (by decide) (by decide) rfl (by decide) (fun c2 => ?_) (fun c2 => ?_)
  · refine r_aload_n C dX5_aimOf_36 0 0 rfl rfl ?_
    refine r_callV (rest := []) (st2 := [.int (fX5_lawful σ)]) C (mX5_lawful (eL E) C.z _ _ σ) lk_X5_100 (rvM C) (by decide) rfl rfl (Nat.le_of_ble_eq_true rfl) dX5_aimOf_37 rfl ?_
    exact r_iret C dX5_aimOf_40 rfl
  · skip
    refine r_tsw (k := 3) (tgt := 87) C dX5_aimOf_6 (by decide) (by decide) rfl (by decide) (fun c3 => ?_) (fun c3 => ?_)
    · refine r_aload_n C dX5_aimOf_87 0 0 rfl rfl ?_
      refine r_callV (rest := []) (st2 := [.int (fX5_rains σ)]) C (mX5_rains (eL E) C.z _ _ σ) lk_X5_103 (rvM C) (by decide) rfl rfl (Nat.le_of_ble_eq_true rfl) dX5_aimOf_88 rfl ?_
      refine r_if_eq (tgt := 103) C dX5_aimOf_91 (by decide) (fun c4 => ?_) (fun c4 => ?_)
      · refine r_aload_n C dX5_aimOf_103 0 0 rfl rfl ?_
        refine r_iload_n C dX5_aimOf_104 1 1 rfl rfl ?_
        refine r_iconst (v := 1) C dX5_aimOf_105 (by decide) ?_
        refine r_bind (fun a5 ha5 => ?_)
        refine r_callV (rest := []) (st2 := [.int a5]) C (mX5_its (eL E) C.z _ _ σ x1 1 a5 ha5) lk_X5_83 (rvM C) (by decide) rfl rfl (Nat.le_of_ble_eq_true rfl) dX5_aimOf_106 rfl ?_
        exact r_iret C dX5_aimOf_109 rfl
      · refine r_aload_n C dX5_aimOf_94 0 0 rfl rfl ?_
        refine gf_X5_7 C dX5_aimOf_95 ?_
        refine r_iconst (v := 3) C dX5_aimOf_98 (by decide) ?_
        refine ald_M (v := (σ 3)) C mI_0 (by decide) (sR_at _ _ _ _) dX5_aimOf_99 ?_
        refine r_goto (tgt := 109) C dX5_aimOf_100 (by decide) ?_
        exact r_iret C dX5_aimOf_109 rfl
    · skip
      refine r_tsw (k := 4) (tgt := 62) C dX5_aimOf_6 (by decide) (by decide) rfl (by decide) (fun c6 => ?_) (fun c6 => ?_)
      · refine r_aload_n C dX5_aimOf_62 0 0 rfl rfl ?_
        refine r_callV (rest := []) (st2 := [.int (fX5_clock σ)]) C (mX5_clock (eL E) C.z _ _ σ) lk_X5_92 (rvM C) (by decide) rfl rfl (Nat.le_of_ble_eq_true rfl) dX5_aimOf_63 rfl ?_
        refine r_bipush (v := 20) C dX5_aimOf_66 (by decide) ?_
        refine r_ic_lt (tgt := 80) C dX5_aimOf_68 (by decide) (fun c7 => ?_) (fun c7 => ?_)
        · refine r_aload_n C dX5_aimOf_80 0 0 rfl rfl ?_
          refine gf_X5_7 C dX5_aimOf_81 ?_
          refine r_iconst (v := 3) C dX5_aimOf_84 (by decide) ?_
          refine ald_M (v := (σ 3)) C mI_0 (by decide) (sR_at _ _ _ _) dX5_aimOf_85 ?_
          exact r_iret C dX5_aimOf_86 rfl
        · refine r_aload_n C dX5_aimOf_71 0 0 rfl rfl ?_
          refine gf_X5_7 C dX5_aimOf_72 ?_
          refine r_iconst (v := 5) C dX5_aimOf_75 (by decide) ?_
          refine ald_M (v := (σ 5)) C mI_0 (by decide) (sR_at _ _ _ _) dX5_aimOf_76 ?_
          refine r_goto (tgt := 86) C dX5_aimOf_77 (by decide) ?_
          exact r_iret C dX5_aimOf_86 rfl
      · skip
        refine r_tsw (k := 5) (tgt := 41) C dX5_aimOf_6 (by decide) (by decide) rfl (by decide) (fun c8 => ?_) (fun c8 => ?_)
        · refine r_aload_n C dX5_aimOf_41 0 0 rfl rfl ?_
          refine r_callV (rest := []) (st2 := [.int (fX5_rains σ)]) C (mX5_rains (eL E) C.z _ _ σ) lk_X5_103 (rvM C) (by decide) rfl rfl (Nat.le_of_ble_eq_true rfl) dX5_aimOf_42 rfl ?_
          refine r_if_eq (tgt := 57) C dX5_aimOf_45 (by decide) (fun c9 => ?_) (fun c9 => ?_)
          · refine r_aload_n C dX5_aimOf_57 0 0 rfl rfl ?_
            refine r_callV (rest := []) (st2 := [.int (fX5_lawful σ)]) C (mX5_lawful (eL E) C.z _ _ σ) lk_X5_100 (rvM C) (by decide) rfl rfl (Nat.le_of_ble_eq_true rfl) dX5_aimOf_58 rfl ?_
            exact r_iret C dX5_aimOf_61 rfl
          · refine r_aload_n C dX5_aimOf_48 0 0 rfl rfl ?_
            refine gf_X5_7 C dX5_aimOf_49 ?_
            refine r_iconst (v := 5) C dX5_aimOf_52 (by decide) ?_
            refine ald_M (v := (σ 5)) C mI_0 (by decide) (sR_at _ _ _ _) dX5_aimOf_53 ?_
            refine r_goto (tgt := 61) C dX5_aimOf_54 (by decide) ?_
            exact r_iret C dX5_aimOf_61 rfl
        · skip
          refine r_tswd (tgt := 110) C dX5_aimOf_6 (sw_out (lo := 2) (hi := 5) (n := 4) a1 [2, 3, 4, 5] (by decide) rfl (List.forall_mem_cons.mpr ⟨c2, List.forall_mem_cons.mpr ⟨c3, List.forall_mem_cons.mpr ⟨c6, List.forall_mem_cons.mpr ⟨c8, fun _ h => absurd h List.not_mem_nil⟩⟩⟩⟩)) (by decide) ?_
          refine r_aload_n C dX5_aimOf_110 0 0 rfl rfl ?_
          refine gf_X5_7 C dX5_aimOf_111 ?_
          refine r_iconst (v := 3) C dX5_aimOf_114 (by decide) ?_
          refine ald_M (v := (σ 3)) C mI_0 (by decide) (sR_at _ _ _ _) dX5_aimOf_115 ?_
          exact r_iret C dX5_aimOf_116 rfl
theorem mX5_aimOf (l : Launch) {Z : Zt} (hZ : Zok 2 Z) (M0 : Mi) (N : Ml) (σ : Nat → Int32) (x1 : Int32) (b : Int32) (hb : fX5_aimOf σ x1 = some b) : Ct 2 Z l yX5_aimOf cX5_aimOf 2 (some .int) 2 [.ref (zA Z 6 0), .int x1] (sR M0 0 σ) N (some (Value.int b), sR M0 0 σ, N) :=
  metG (fin := (finX5_aimOf M0 σ N)) (by decide) (Nat.le_of_ble_eq_true rfl) (fun E _ C => bX5_aimOf C x1) hb
theorem dX5_paceOf_0 : decode cX5_paceOf 0 = .ok (.aload_n 0, 1) := by decide +kernel
theorem dX5_paceOf_1 : decode cX5_paceOf 1 = .ok (.iload_n 1, 1) := by decide +kernel
theorem dX5_paceOf_2 : decode cX5_paceOf 2 = .ok (.iconst 0, 1) := by decide +kernel
theorem dX5_paceOf_3 : decode cX5_paceOf 3 = .ok (.invokevirtual 83, 3) := by decide +kernel
theorem dX5_paceOf_6 : decode cX5_paceOf 6 = .ok (.tableswitch 49 1 4 #[30, 49, 34, 32], 30) := by decide +kernel
theorem dX5_paceOf_36 : decode cX5_paceOf 36 = .ok (.iconst 2, 1) := by decide +kernel
theorem dX5_paceOf_37 : decode cX5_paceOf 37 = .ok (.ireturn, 1) := by decide +kernel
theorem dX5_paceOf_38 : decode cX5_paceOf 38 = .ok (.iconst 3, 1) := by decide +kernel
theorem dX5_paceOf_39 : decode cX5_paceOf 39 = .ok (.ireturn, 1) := by decide +kernel
theorem dX5_paceOf_40 : decode cX5_paceOf 40 = .ok (.aload_n 0, 1) := by decide +kernel
theorem dX5_paceOf_41 : decode cX5_paceOf 41 = .ok (.invokevirtual 92, 3) := by decide +kernel
theorem dX5_paceOf_44 : decode cX5_paceOf 44 = .ok (.iconst 2, 1) := by decide +kernel
theorem dX5_paceOf_45 : decode cX5_paceOf 45 = .ok (.irem, 1) := by decide +kernel
theorem dX5_paceOf_46 : decode cX5_paceOf 46 = .ok (.ifCond .ne 7, 3) := by decide +kernel
theorem dX5_paceOf_49 : decode cX5_paceOf 49 = .ok (.iconst 1, 1) := by decide +kernel
theorem dX5_paceOf_50 : decode cX5_paceOf 50 = .ok (.goto 4, 3) := by decide +kernel
theorem dX5_paceOf_53 : decode cX5_paceOf 53 = .ok (.iconst 0, 1) := by decide +kernel
theorem dX5_paceOf_54 : decode cX5_paceOf 54 = .ok (.ireturn, 1) := by decide +kernel
theorem dX5_paceOf_55 : decode cX5_paceOf 55 = .ok (.iconst 1, 1) := by decide +kernel
theorem dX5_paceOf_56 : decode cX5_paceOf 56 = .ok (.ireturn, 1) := by decide +kernel
def finX5_paceOf (M0 : Mi) (σ : Nat → Int32) (N : Ml) : Int32 → Option Value × Mi × Ml := fun b => (some (Value.int b), sR M0 0 σ, N)
noncomputable def fX5_paceOf (σ : Nat → Int32)  (x1 : Int32) : Option (Int32) := (Option.bind (fX5_its σ x1 0) (fun a1 => (if a1 = 1 then (some 2) else (if a1 = 2 then (some 1) else (if a1 = 3 then (if ((fX5_clock σ) - (fX5_clock σ) / 2 * 2) = 0 then (some 1) else (some 0)) else (if a1 = 4 then (some 3) else (some 1)))))))
theorem bX5_paceOf {Z : Zt} {E : Ec} {M0 : Mi} {σ : Nat → Int32} {N : Ml} (C : Ok 2 Z E cX5_paceOf 2 RX5 (some .int) 2)    (x1 : Int32)  : GT Z E 2 (finX5_paceOf M0 σ N) 0 [(0, .ref (zA Z 6 0)), (1, .int x1)] [] (sR M0 0 σ) N (fX5_paceOf σ x1) := by
  unfold fX5_paceOf
  refine r_aload_n C dX5_paceOf_0 0 0 rfl rfl ?_
  refine r_iload_n C dX5_paceOf_1 1 1 rfl rfl ?_
  refine r_iconst (v := 0) C dX5_paceOf_2 (by decide) ?_
  refine r_bind (fun a1 ha1 => ?_)
  refine r_callV (rest := []) (st2 := [.int a1]) C (mX5_its (eL E) C.z _ _ σ x1 0 a1 ha1) lk_X5_83 (rvM C) (by decide) rfl rfl (Nat.le_of_ble_eq_true rfl) dX5_paceOf_3 rfl ?_
  refine r_tsw (k := 1) (tgt := 36) C dX5_paceOf_6 (by decide) (by decide) rfl (by decide) (fun c2 => ?_) (fun c2 => ?_)
  · refine r_iconst (v := 2) C dX5_paceOf_36 (by decide) ?_
    exact r_iret C dX5_paceOf_37 rfl
  · skip
    refine r_tsw (k := 2) (tgt := 55) C dX5_paceOf_6 (by decide) (by decide) rfl (by decide) (fun c3 => ?_) (fun c3 => ?_)
    · refine r_iconst (v := 1) C dX5_paceOf_55 (by decide) ?_
      exact r_iret C dX5_paceOf_56 rfl
    · skip
      refine r_tsw (k := 3) (tgt := 40) C dX5_paceOf_6 (by decide) (by decide) rfl (by decide) (fun c4 => ?_) (fun c4 => ?_)
      · refine r_aload_n C dX5_paceOf_40 0 0 rfl rfl ?_
        refine r_callV (rest := []) (st2 := [.int (fX5_clock σ)]) C (mX5_clock (eL E) C.z _ _ σ) lk_X5_92 (rvM C) (by decide) rfl rfl (Nat.le_of_ble_eq_true rfl) dX5_paceOf_41 rfl ?_
        refine r_iconst (v := 2) C dX5_paceOf_44 (by decide) ?_
        refine r_irem C dX5_paceOf_45 (by decide) ?_
        refine r_if_ne (tgt := 53) C dX5_paceOf_46 (by decide) (fun c5 => ?_) (fun c5 => ?_)
        · refine r_iconst (v := 0) C dX5_paceOf_53 (by decide) ?_
          exact r_iret C dX5_paceOf_54 rfl
        · refine r_iconst (v := 1) C dX5_paceOf_49 (by decide) ?_
          refine r_goto (tgt := 54) C dX5_paceOf_50 (by decide) ?_
          exact r_iret C dX5_paceOf_54 rfl
      · skip
        refine r_tsw (k := 4) (tgt := 38) C dX5_paceOf_6 (by decide) (by decide) rfl (by decide) (fun c6 => ?_) (fun c6 => ?_)
        · refine r_iconst (v := 3) C dX5_paceOf_38 (by decide) ?_
          exact r_iret C dX5_paceOf_39 rfl
        · skip
          refine r_tswd (tgt := 55) C dX5_paceOf_6 (sw_out (lo := 1) (hi := 4) (n := 4) a1 [1, 2, 3, 4] (by decide) rfl (List.forall_mem_cons.mpr ⟨c2, List.forall_mem_cons.mpr ⟨c3, List.forall_mem_cons.mpr ⟨c4, List.forall_mem_cons.mpr ⟨c6, fun _ h => absurd h List.not_mem_nil⟩⟩⟩⟩)) (by decide) ?_
          refine r_iconst (v := 1) C dX5_paceOf_55 (by decide) ?_
          exact r_iret C dX5_paceOf_56 rfl
theorem mX5_paceOf (l : Launch) {Z : Zt} (hZ : Zok 2 Z) (M0 : Mi) (N : Ml) (σ : Nat → Int32) (x1 : Int32) (b : Int32) (hb : fX5_paceOf σ x1 = some b) : Ct 2 Z l yX5_paceOf cX5_paceOf 2 (some .int) 2 [.ref (zA Z 6 0), .int x1] (sR M0 0 σ) N (some (Value.int b), sR M0 0 σ, N) :=
  metG (fin := (finX5_paceOf M0 σ N)) (by decide) (Nat.le_of_ble_eq_true rfl) (fun E _ C => bX5_paceOf C x1) hb
