theorem dX5_image_0 : decode cX5_image 0 = .ok (.iconst 0, 1) := by decide +kernel
theorem dX5_image_1 : decode cX5_image 1 = .ok (.istore_n 1, 1) := by decide +kernel
theorem dX5_image_2 : decode cX5_image 2 = .ok (.iload_n 1, 1) := by decide +kernel
theorem dX5_image_3 : decode cX5_image 3 = .ok (.bipush 39, 2) := by decide +kernel
theorem dX5_image_5 : decode cX5_image 5 = .ok (.if_icmp .ge 21, 3) := by decide +kernel
theorem dX5_image_8 : decode cX5_image 8 = .ok (.aload_n 0, 1) := by decide +kernel
theorem dX5_image_9 : decode cX5_image 9 = .ok (.getfield 13, 3) := by decide +kernel
theorem dX5_image_12 : decode cX5_image 12 = .ok (.iload_n 1, 1) := by decide +kernel
theorem dX5_image_13 : decode cX5_image 13 = .ok (.aload_n 0, 1) := by decide +kernel
theorem dX5_image_14 : decode cX5_image 14 = .ok (.getfield 7, 3) := by decide +kernel
theorem dX5_image_17 : decode cX5_image 17 = .ok (.iload_n 1, 1) := by decide +kernel
theorem dX5_image_18 : decode cX5_image 18 = .ok (.iaload, 1) := by decide +kernel
theorem dX5_image_19 : decode cX5_image 19 = .ok (.iastore, 1) := by decide +kernel
theorem dX5_image_20 : decode cX5_image 20 = .ok (.iinc 1 1, 3) := by decide +kernel
theorem dX5_image_23 : decode cX5_image 23 = .ok (.goto (-21), 3) := by decide +kernel
theorem dX5_image_26 : decode cX5_image 26 = .ok (.aload_n 0, 1) := by decide +kernel
theorem dX5_image_27 : decode cX5_image 27 = .ok (.iconst 1, 1) := by decide +kernel
theorem dX5_image_28 : decode cX5_image 28 = .ok (.putfield 341, 3) := by decide +kernel
theorem dX5_image_31 : decode cX5_image 31 = .ok (.iconst 1, 1) := by decide +kernel
theorem dX5_image_32 : decode cX5_image 32 = .ok (.ireturn, 1) := by decide +kernel
def finX5_image (N : Ml) : Int32 × Mi → Option Value × Mi × Ml := fun b => (some (Value.int b.1), b.2, N)
noncomputable def fX5_image_2   : Nat → Mi → Int32 → Option (Int32 × Mi)
  | 0 => fun _ _ => none
  | n + 1 => fun M x1 => (if 39 ≤ x1 then (some (1, (wM M 6 0 1))) else (if inb x1 39 then ((fX5_image_2 n) (wM M 1 (ix x1) (M 0 (ix x1))) (x1 + 1)) else none))
theorem bX5_image_2 {Z : Zt} {E : Ec} {N : Ml} (C : Ok 2 Z E cX5_image 2 RX5 (some .int) 0)    : ∀ (n : Nat) (M : Mi) (x1 : Int32), GT Z E 2 (finX5_image N) 2 [(0, .ref (zA Z 6 0)), (1, .int x1)] [] M N (fX5_image_2 n M x1) := by
  intro n
  induction n with
  | zero => intro M x1; exact r_none
  | succ n ih =>
    intro M x1
    rw [fX5_image_2]
    refine r_iload_n C dX5_image_2 1 1 rfl rfl ?_
    refine r_bipush (v := 39) C dX5_image_3 (by decide) ?_
    refine r_ic_ge (tgt := 26) C dX5_image_5 (by decide) (fun c1 => ?_) (fun c1 => ?_)
    · refine r_aload_n C dX5_image_26 0 0 rfl rfl ?_
      refine r_iconst (v := 1) C dX5_image_27 (by decide) ?_
      refine pf_X5_341 (M' := (wM M 6 0 1)) C dX5_image_28 (Or.inr rfl) rfl ?_
      refine r_iconst (v := 1) C dX5_image_31 (by decide) ?_
      exact r_iret C dX5_image_32 rfl
    · refine r_aload_n C dX5_image_8 0 0 rfl rfl ?_
      refine gf_X5_13 C dX5_image_9 ?_
      refine r_iload_n C dX5_image_12 1 1 rfl rfl ?_
      refine r_aload_n C dX5_image_13 0 0 rfl rfl ?_
      refine gf_X5_7 C dX5_image_14 ?_
      refine r_iload_n C dX5_image_17 1 1 rfl rfl ?_
      refine r_guard (fun h2 => ?_)
      refine ald_M (v := (M 0 (ix x1))) C mI_0 h2 rfl dX5_image_18 ?_
      refine ast_M (M' := (wM M 1 (ix x1) (M 0 (ix x1)))) C mI_1 h2 rfl dX5_image_19 ?_
      refine r_iinc (v := (x1 + 1)) (lv' := [(1, .int (x1 + 1)), (0, .ref (zA Z 6 0))]) C dX5_image_20 1 rfl rfl (by decide) rfl ?_
      refine r_goto (tgt := 2) C dX5_image_23 (by decide) ?_
      refine r_lv [1, 0] (lv' := [(0, .ref (zA Z 6 0)), (1, .int (x1 + 1))]) rfl ?_
      exact ih (wM M 1 (ix x1) (M 0 (ix x1))) (x1 + 1)
noncomputable def fX5_image   (M : Mi) : Option (Int32 × Mi) := (fX5_image_2 fu M 0)
theorem bX5_image {Z : Zt} {E : Ec} {N : Ml} (C : Ok 2 Z E cX5_image 2 RX5 (some .int) 0)    (M : Mi)  : GT Z E 2 (finX5_image N) 0 [(0, .ref (zA Z 6 0))] [] M N (fX5_image M) := by
  unfold fX5_image
  refine r_iconst (v := 0) C dX5_image_0 (by decide) ?_
  refine r_istore_n (lv' := [(1, .int 0), (0, .ref (zA Z 6 0))]) C dX5_image_1 1 rfl (by decide) rfl ?_
  refine r_lv [1, 0] (lv' := [(0, .ref (zA Z 6 0)), (1, .int 0)]) rfl ?_
  exact bX5_image_2 C fu M 0
theorem mX5_image (l : Launch) {Z : Zt} (hZ : Zok 2 Z) (M : Mi) (N : Ml) (b : Int32 × Mi) (hb : fX5_image M = some b) : Ct 2 Z l yX5_image cX5_image 2 (some .int) 0 [.ref (zA Z 6 0)] M N (some (Value.int b.1), b.2, N) :=
  metG (fin := (finX5_image N)) (by decide) (Nat.le_of_ble_eq_true rfl) (fun E _ C => bX5_image C M) hb
theorem dX5_undo_0 : decode cX5_undo 0 = .ok (.aload_n 0, 1) := by decide +kernel
theorem dX5_undo_1 : decode cX5_undo 1 = .ok (.getfield 341, 3) := by decide +kernel
theorem dX5_undo_4 : decode cX5_undo 4 = .ok (.ifCond .ne 10, 3) := by decide +kernel
theorem dX5_undo_7 : decode cX5_undo 7 = .ok (.aload_n 0, 1) := by decide +kernel
theorem dX5_undo_8 : decode cX5_undo 8 = .ok (.ldc 137, 2) := by decide +kernel
theorem dX5_undo_10 : decode cX5_undo 10 = .ok (.invokevirtual 65, 3) := by decide +kernel
theorem dX5_undo_13 : decode cX5_undo 13 = .ok (.ireturn, 1) := by decide +kernel
theorem dX5_undo_14 : decode cX5_undo 14 = .ok (.iconst 0, 1) := by decide +kernel
theorem dX5_undo_15 : decode cX5_undo 15 = .ok (.istore_n 1, 1) := by decide +kernel
theorem dX5_undo_16 : decode cX5_undo 16 = .ok (.iload_n 1, 1) := by decide +kernel
theorem dX5_undo_17 : decode cX5_undo 17 = .ok (.bipush 39, 2) := by decide +kernel
theorem dX5_undo_19 : decode cX5_undo 19 = .ok (.if_icmp .ge 21, 3) := by decide +kernel
theorem dX5_undo_22 : decode cX5_undo 22 = .ok (.aload_n 0, 1) := by decide +kernel
theorem dX5_undo_23 : decode cX5_undo 23 = .ok (.getfield 7, 3) := by decide +kernel
theorem dX5_undo_26 : decode cX5_undo 26 = .ok (.iload_n 1, 1) := by decide +kernel
theorem dX5_undo_27 : decode cX5_undo 27 = .ok (.aload_n 0, 1) := by decide +kernel
theorem dX5_undo_28 : decode cX5_undo 28 = .ok (.getfield 13, 3) := by decide +kernel
theorem dX5_undo_31 : decode cX5_undo 31 = .ok (.iload_n 1, 1) := by decide +kernel
theorem dX5_undo_32 : decode cX5_undo 32 = .ok (.iaload, 1) := by decide +kernel
theorem dX5_undo_33 : decode cX5_undo 33 = .ok (.iastore, 1) := by decide +kernel
theorem dX5_undo_34 : decode cX5_undo 34 = .ok (.iinc 1 1, 3) := by decide +kernel
theorem dX5_undo_37 : decode cX5_undo 37 = .ok (.goto (-21), 3) := by decide +kernel
theorem dX5_undo_40 : decode cX5_undo 40 = .ok (.aload_n 0, 1) := by decide +kernel
theorem dX5_undo_41 : decode cX5_undo 41 = .ok (.getfield 7, 3) := by decide +kernel
theorem dX5_undo_44 : decode cX5_undo 44 = .ok (.iconst 1, 1) := by decide +kernel
theorem dX5_undo_45 : decode cX5_undo 45 = .ok (.iaload, 1) := by decide +kernel
theorem dX5_undo_46 : decode cX5_undo 46 = .ok (.ireturn, 1) := by decide +kernel
def finX5_undo (N : Ml) : Int32 × Mi → Option Value × Mi × Ml := fun b => (some (Value.int b.1), b.2, N)
noncomputable def fX5_undo_16   : Nat → Mi → Int32 → Option (Int32 × Mi)
  | 0 => fun _ _ => none
  | n + 1 => fun M x1 => (if 39 ≤ x1 then (some ((M 0 1), M)) else (if inb x1 39 then ((fX5_undo_16 n) (wM M 0 (ix x1) (M 1 (ix x1))) (x1 + 1)) else none))
theorem bX5_undo_16 {Z : Zt} {E : Ec} {N : Ml} (C : Ok 2 Z E cX5_undo 2 RX5 (some .int) 1)    : ∀ (n : Nat) (M : Mi) (x1 : Int32), GT Z E 2 (finX5_undo N) 16 [(0, .ref (zA Z 6 0)), (1, .int x1)] [] M N (fX5_undo_16 n M x1) := by
  intro n
  induction n with
  | zero => intro M x1; exact r_none
  | succ n ih =>
    intro M x1
    rw [fX5_undo_16]
    refine r_iload_n C dX5_undo_16 1 1 rfl rfl ?_
    refine r_bipush (v := 39) C dX5_undo_17 (by decide) ?_
    refine r_ic_ge (tgt := 40) C dX5_undo_19 (by decide) (fun c2 => ?_) (fun c2 => ?_)
    · refine r_aload_n C dX5_undo_40 0 0 rfl rfl ?_
      refine gf_X5_7 C dX5_undo_41 ?_
      refine r_iconst (v := 1) C dX5_undo_44 (by decide) ?_
      refine ald_M (v := (M 0 1)) C mI_0 (by decide) rfl dX5_undo_45 ?_
      exact r_iret C dX5_undo_46 rfl
    · refine r_aload_n C dX5_undo_22 0 0 rfl rfl ?_
      refine gf_X5_7 C dX5_undo_23 ?_
      refine r_iload_n C dX5_undo_26 1 1 rfl rfl ?_
      refine r_aload_n C dX5_undo_27 0 0 rfl rfl ?_
      refine gf_X5_13 C dX5_undo_28 ?_
      refine r_iload_n C dX5_undo_31 1 1 rfl rfl ?_
      refine r_guard (fun h3 => ?_)
      refine ald_M (v := (M 1 (ix x1))) C mI_1 h3 rfl dX5_undo_32 ?_
      refine ast_M (M' := (wM M 0 (ix x1) (M 1 (ix x1)))) C mI_0 h3 rfl dX5_undo_33 ?_
      refine r_iinc (v := (x1 + 1)) (lv' := [(1, .int (x1 + 1)), (0, .ref (zA Z 6 0))]) C dX5_undo_34 1 rfl rfl (by decide) rfl ?_
      refine r_goto (tgt := 16) C dX5_undo_37 (by decide) ?_
      refine r_lv [1, 0] (lv' := [(0, .ref (zA Z 6 0)), (1, .int (x1 + 1))]) rfl ?_
      exact ih (wM M 0 (ix x1) (M 1 (ix x1))) (x1 + 1)
noncomputable def fX5_undo   (M : Mi) : Option (Int32 × Mi) := (if (M 6 0) = 0 then (Option.bind (fX5_finds M (-1000000004)) (fun a4 => (some (a4.1, (a4.2))))) else (fX5_undo_16 fu M 0))
theorem bX5_undo {Z : Zt} {E : Ec} {N : Ml} (C : Ok 2 Z E cX5_undo 2 RX5 (some .int) 1)    (M : Mi)  : GT Z E 2 (finX5_undo N) 0 [(0, .ref (zA Z 6 0))] [] M N (fX5_undo M) := by
  unfold fX5_undo
  refine r_aload_n C dX5_undo_0 0 0 rfl rfl ?_
  refine gf_X5_341 (v := (M 6 0)) C dX5_undo_1 rfl ?_
  refine r_if_ne (tgt := 14) C dX5_undo_4 (by decide) (fun c1 => ?_) (fun c1 => ?_)
  · refine r_iconst (v := 0) C dX5_undo_14 (by decide) ?_
    refine r_istore_n (lv' := [(1, .int 0), (0, .ref (zA Z 6 0))]) C dX5_undo_15 1 rfl (by decide) rfl ?_
    refine r_lv [1, 0] (lv' := [(0, .ref (zA Z 6 0)), (1, .int 0)]) rfl ?_
    exact bX5_undo_16 C fu M 0
  · refine r_aload_n C dX5_undo_7 0 0 rfl rfl ?_
    refine r_ldc (v := (-1000000004)) C dX5_undo_8 wd_981 ?_
    refine r_bind (fun a4 ha4 => ?_)
    refine r_callV (rest := []) (st2 := [.int a4.1]) C (mX5_finds (eL E) C.z M N (-1000000004) a4 ha4) lk_X5_65 (rvM C) (by decide) rfl rfl (Nat.le_of_ble_eq_true rfl) dX5_undo_10 rfl ?_
    exact r_iret C dX5_undo_13 rfl
theorem mX5_undo (l : Launch) {Z : Zt} (hZ : Zok 2 Z) (M : Mi) (N : Ml) (b : Int32 × Mi) (hb : fX5_undo M = some b) : Ct 2 Z l yX5_undo cX5_undo 2 (some .int) 1 [.ref (zA Z 6 0)] M N (some (Value.int b.1), b.2, N) :=
  metG (fin := (finX5_undo N)) (by decide) (Nat.le_of_ble_eq_true rfl) (fun E _ C => bX5_undo C M) hb
theorem dX5_tear_0 : decode cX5_tear 0 = .ok (.aload_n 0, 1) := by decide +kernel
theorem dX5_tear_1 : decode cX5_tear 1 = .ok (.getfield 341, 3) := by decide +kernel
theorem dX5_tear_4 : decode cX5_tear 4 = .ok (.ifCond .eq 7, 3) := by decide +kernel
theorem dX5_tear_7 : decode cX5_tear 7 = .ok (.iconst 1, 1) := by decide +kernel
theorem dX5_tear_8 : decode cX5_tear 8 = .ok (.goto 4, 3) := by decide +kernel
theorem dX5_tear_11 : decode cX5_tear 11 = .ok (.iconst 0, 1) := by decide +kernel
theorem dX5_tear_12 : decode cX5_tear 12 = .ok (.istore_n 1, 1) := by decide +kernel
theorem dX5_tear_13 : decode cX5_tear 13 = .ok (.aload_n 0, 1) := by decide +kernel
theorem dX5_tear_14 : decode cX5_tear 14 = .ok (.iconst 0, 1) := by decide +kernel
theorem dX5_tear_15 : decode cX5_tear 15 = .ok (.putfield 341, 3) := by decide +kernel
theorem dX5_tear_18 : decode cX5_tear 18 = .ok (.iload_n 1, 1) := by decide +kernel
theorem dX5_tear_19 : decode cX5_tear 19 = .ok (.ireturn, 1) := by decide +kernel
def finX5_tear (N : Ml) : Int32 × Mi → Option Value × Mi × Ml := fun b => (some (Value.int b.1), b.2, N)
noncomputable def fX5_tear   (M : Mi) : Option (Int32 × Mi) := (some ((if (M 6 0) = 0 then 0 else 1 : Int32), (wM M 6 0 0)))
theorem bX5_tear {Z : Zt} {E : Ec} {N : Ml} (C : Ok 2 Z E cX5_tear 2 RX5 (some .int) 0)    (M : Mi)  : GT Z E 2 (finX5_tear N) 0 [(0, .ref (zA Z 6 0))] [] M N (fX5_tear M) := by
  unfold fX5_tear
  refine r_aload_n C dX5_tear_0 0 0 rfl rfl ?_
  refine gf_X5_341 (v := (M 6 0)) C dX5_tear_1 rfl ?_
  refine r_sel (tj := 12) (sj := [.int (if (M 6 0) = 0 then 0 else 1 : Int32)]) ?_ (fun k2 => ?_)
  · refine r_istore_n (lv' := [(1, .int (if (M 6 0) = 0 then 0 else 1 : Int32)), (0, .ref (zA Z 6 0))]) C dX5_tear_12 1 rfl (by decide) rfl ?_
    refine r_aload_n C dX5_tear_13 0 1 rfl rfl ?_
    refine r_iconst (v := 0) C dX5_tear_14 (by decide) ?_
    refine pf_X5_341 (M' := (wM M 6 0 0)) C dX5_tear_15 (Or.inl rfl) rfl ?_
    refine r_iload_n C dX5_tear_18 1 0 rfl rfl ?_
    exact r_iret C dX5_tear_19 rfl
  · refine r_same (P := (M 6 0) = 0) ?_
    refine r_if_eq (tgt := 11) C dX5_tear_4 (by decide) (fun c1 => ?_) (fun c1 => ?_)
    · refine r_iconst (v := 0) C dX5_tear_11 (by decide) ?_
      exact r_stk (if_pos c1) k2
    · refine r_iconst (v := 1) C dX5_tear_7 (by decide) ?_
      refine r_goto (tgt := 12) C dX5_tear_8 (by decide) ?_
      exact r_stk (if_neg c1) k2
theorem mX5_tear (l : Launch) {Z : Zt} (hZ : Zok 2 Z) (M : Mi) (N : Ml) (b : Int32 × Mi) (hb : fX5_tear M = some b) : Ct 2 Z l yX5_tear cX5_tear 2 (some .int) 0 [.ref (zA Z 6 0)] M N (some (Value.int b.1), b.2, N) :=
  metG (fin := (finX5_tear N)) (by decide) (Nat.le_of_ble_eq_true rfl) (fun E _ C => bX5_tear C M) hb
theorem dX5_tipped_0 : decode cX5_tipped 0 = .ok (.iconst 0, 1) := by decide +kernel
theorem dX5_tipped_1 : decode cX5_tipped 1 = .ok (.istore_n 1, 1) := by decide +kernel
theorem dX5_tipped_2 : decode cX5_tipped 2 = .ok (.iconst 0, 1) := by decide +kernel
theorem dX5_tipped_3 : decode cX5_tipped 3 = .ok (.istore_n 2, 1) := by decide +kernel
theorem dX5_tipped_4 : decode cX5_tipped 4 = .ok (.iload_n 2, 1) := by decide +kernel
theorem dX5_tipped_5 : decode cX5_tipped 5 = .ok (.aload_n 0, 1) := by decide +kernel
theorem dX5_tipped_6 : decode cX5_tipped 6 = .ok (.getfield 7, 3) := by decide +kernel
theorem dX5_tipped_9 : decode cX5_tipped 9 = .ok (.iconst 1, 1) := by decide +kernel
theorem dX5_tipped_10 : decode cX5_tipped 10 = .ok (.iaload, 1) := by decide +kernel
theorem dX5_tipped_11 : decode cX5_tipped 11 = .ok (.if_icmp .ge 18, 3) := by decide +kernel
theorem dX5_tipped_14 : decode cX5_tipped 14 = .ok (.iload_n 1, 1) := by decide +kernel
theorem dX5_tipped_15 : decode cX5_tipped 15 = .ok (.aload_n 0, 1) := by decide +kernel
theorem dX5_tipped_16 : decode cX5_tipped 16 = .ok (.iload_n 2, 1) := by decide +kernel
theorem dX5_tipped_17 : decode cX5_tipped 17 = .ok (.iconst 3, 1) := by decide +kernel
theorem dX5_tipped_18 : decode cX5_tipped 18 = .ok (.invokevirtual 83, 3) := by decide +kernel
theorem dX5_tipped_21 : decode cX5_tipped 21 = .ok (.iadd, 1) := by decide +kernel
theorem dX5_tipped_22 : decode cX5_tipped 22 = .ok (.istore_n 1, 1) := by decide +kernel
theorem dX5_tipped_23 : decode cX5_tipped 23 = .ok (.iinc 2 1, 3) := by decide +kernel
theorem dX5_tipped_26 : decode cX5_tipped 26 = .ok (.goto (-22), 3) := by decide +kernel
theorem dX5_tipped_29 : decode cX5_tipped 29 = .ok (.iload_n 1, 1) := by decide +kernel
theorem dX5_tipped_30 : decode cX5_tipped 30 = .ok (.ireturn, 1) := by decide +kernel
def finX5_tipped (M0 : Mi) (σ : Nat → Int32) (N : Ml) : Int32 → Option Value × Mi × Ml := fun b => (some (Value.int b), sR M0 0 σ, N)
noncomputable def fX5_tipped_4 (σ : Nat → Int32)  : Nat → Int32 → Int32 → Option (Int32)
  | 0 => fun _ _ => none
  | n + 1 => fun x1 x2 => (if (σ 1) ≤ x2 then (some x1) else (Option.bind (fX5_its σ x2 3) (fun a2 => ((fX5_tipped_4 σ n) (x1 + a2) (x2 + 1)))))
theorem bX5_tipped_4 {Z : Zt} {E : Ec} {M0 : Mi} {σ : Nat → Int32} {N : Ml} (C : Ok 2 Z E cX5_tipped 3 RX5 (some .int) 2)    : ∀ (n : Nat) (x1 : Int32) (x2 : Int32), GT Z E 3 (finX5_tipped M0 σ N) 4 [(0, .ref (zA Z 6 0)), (1, .int x1), (2, .int x2)] [] (sR M0 0 σ) N (fX5_tipped_4 σ n x1 x2) := by
  intro n
  induction n with
  | zero => intro x1 x2; exact r_none
  | succ n ih =>
    intro x1 x2
    rw [fX5_tipped_4]
    refine r_iload_n C dX5_tipped_4 2 2 rfl rfl ?_
    refine r_aload_n C dX5_tipped_5 0 0 rfl rfl ?_
    refine gf_X5_7 C dX5_tipped_6 ?_
    refine r_iconst (v := 1) C dX5_tipped_9 (by decide) ?_
    refine ald_M (v := (σ 1)) C mI_0 (by decide) (sR_at _ _ _ _) dX5_tipped_10 ?_
    refine r_ic_ge (tgt := 29) C dX5_tipped_11 (by decide) (fun c1 => ?_) (fun c1 => ?_)
    · refine r_iload_n C dX5_tipped_29 1 1 rfl rfl ?_
      exact r_iret C dX5_tipped_30 rfl
    · refine r_iload_n C dX5_tipped_14 1 1 rfl rfl ?_
      refine r_aload_n C dX5_tipped_15 0 0 rfl rfl ?_
      refine r_iload_n C dX5_tipped_16 2 2 rfl rfl ?_
      refine r_iconst (v := 3) C dX5_tipped_17 (by decide) ?_
      refine r_bind (fun a2 ha2 => ?_)
      refine r_callV (rest := [.int x1]) (st2 := [.int a2, .int x1]) C (mX5_its (eL E) C.z _ _ σ x2 3 a2 ha2) lk_X5_83 (rvM C) (by decide) rfl rfl (Nat.le_of_ble_eq_true rfl) dX5_tipped_18 rfl ?_
      refine r_iadd C dX5_tipped_21 ?_
      refine r_istore_n (lv' := [(1, .int (x1 + a2)), (0, .ref (zA Z 6 0)), (2, .int x2)]) C dX5_tipped_22 1 rfl (by decide) rfl ?_
      refine r_iinc (v := (x2 + 1)) (lv' := [(2, .int (x2 + 1)), (1, .int (x1 + a2)), (0, .ref (zA Z 6 0))]) C dX5_tipped_23 2 rfl rfl (by decide) rfl ?_
      refine r_goto (tgt := 4) C dX5_tipped_26 (by decide) ?_
      refine r_lv [2, 1, 0] (lv' := [(0, .ref (zA Z 6 0)), (1, .int (x1 + a2)), (2, .int (x2 + 1))]) rfl ?_
      exact ih (x1 + a2) (x2 + 1)
noncomputable def fX5_tipped (σ : Nat → Int32)   : Option (Int32) := (fX5_tipped_4 σ fu 0 0)
theorem bX5_tipped {Z : Zt} {E : Ec} {M0 : Mi} {σ : Nat → Int32} {N : Ml} (C : Ok 2 Z E cX5_tipped 3 RX5 (some .int) 2)      : GT Z E 3 (finX5_tipped M0 σ N) 0 [(0, .ref (zA Z 6 0))] [] (sR M0 0 σ) N (fX5_tipped σ ) := by
  unfold fX5_tipped
  refine r_iconst (v := 0) C dX5_tipped_0 (by decide) ?_
  refine r_istore_n (lv' := [(1, .int 0), (0, .ref (zA Z 6 0))]) C dX5_tipped_1 1 rfl (by decide) rfl ?_
  refine r_iconst (v := 0) C dX5_tipped_2 (by decide) ?_
  refine r_istore_n (lv' := [(2, .int 0), (1, .int 0), (0, .ref (zA Z 6 0))]) C dX5_tipped_3 2 rfl (by decide) rfl ?_
  refine r_lv [2, 1, 0] (lv' := [(0, .ref (zA Z 6 0)), (1, .int 0), (2, .int 0)]) rfl ?_
  exact bX5_tipped_4 C fu 0 0
theorem mX5_tipped (l : Launch) {Z : Zt} (hZ : Zok 2 Z) (M0 : Mi) (N : Ml) (σ : Nat → Int32) (b : Int32) (hb : fX5_tipped σ = some b) : Ct 2 Z l yX5_tipped cX5_tipped 3 (some .int) 2 [.ref (zA Z 6 0)] (sR M0 0 σ) N (some (Value.int b), sR M0 0 σ, N) :=
  metG (fin := (finX5_tipped M0 σ N)) (by decide) (Nat.le_of_ble_eq_true rfl) (fun E _ C => bX5_tipped C) hb
theorem dX5_count_0 : decode cX5_count 0 = .ok (.iload_n 1, 1) := by decide +kernel
theorem dX5_count_1 : decode cX5_count 1 = .ok (.tableswitch 58 0 3 #[31, 38, 43, 53], 31) := by decide +kernel
theorem dX5_count_32 : decode cX5_count 32 = .ok (.aload_n 0, 1) := by decide +kernel
theorem dX5_count_33 : decode cX5_count 33 = .ok (.getfield 7, 3) := by decide +kernel
theorem dX5_count_36 : decode cX5_count 36 = .ok (.iconst 1, 1) := by decide +kernel
theorem dX5_count_37 : decode cX5_count 37 = .ok (.iaload, 1) := by decide +kernel
theorem dX5_count_38 : decode cX5_count 38 = .ok (.ireturn, 1) := by decide +kernel
theorem dX5_count_39 : decode cX5_count 39 = .ok (.aload_n 0, 1) := by decide +kernel
theorem dX5_count_40 : decode cX5_count 40 = .ok (.getfield 214, 3) := by decide +kernel
theorem dX5_count_43 : decode cX5_count 43 = .ok (.ireturn, 1) := by decide +kernel
theorem dX5_count_44 : decode cX5_count 44 = .ok (.aload_n 0, 1) := by decide +kernel
theorem dX5_count_45 : decode cX5_count 45 = .ok (.getfield 7, 3) := by decide +kernel
theorem dX5_count_48 : decode cX5_count 48 = .ok (.iconst 2, 1) := by decide +kernel
theorem dX5_count_49 : decode cX5_count 49 = .ok (.iaload, 1) := by decide +kernel
theorem dX5_count_50 : decode cX5_count 50 = .ok (.invokestatic 145, 3) := by decide +kernel
theorem dX5_count_53 : decode cX5_count 53 = .ok (.ireturn, 1) := by decide +kernel
theorem dX5_count_54 : decode cX5_count 54 = .ok (.aload_n 0, 1) := by decide +kernel
theorem dX5_count_55 : decode cX5_count 55 = .ok (.invokevirtual 344, 3) := by decide +kernel
theorem dX5_count_58 : decode cX5_count 58 = .ok (.ireturn, 1) := by decide +kernel
theorem dX5_count_59 : decode cX5_count 59 = .ok (.aload_n 0, 1) := by decide +kernel
theorem dX5_count_60 : decode cX5_count 60 = .ok (.ldc 41, 2) := by decide +kernel
theorem dX5_count_62 : decode cX5_count 62 = .ok (.invokevirtual 65, 3) := by decide +kernel
theorem dX5_count_65 : decode cX5_count 65 = .ok (.ireturn, 1) := by decide +kernel
def finX5_count (N : Ml) : Int32 × Mi → Option Value × Mi × Ml := fun b => (some (Value.int b.1), b.2, N)
noncomputable def fX5_count   (M : Mi) (x1 : Int32) : Option (Int32 × Mi) := (if x1 = 0 then (some ((M 0 1), M)) else (if x1 = 1 then (some ((M 6 2), M)) else (if x1 = 2 then (Option.bind (fX5_ones (M 0 2)) (fun a4 => (some (a4, M)))) else (if x1 = 3 then (Option.bind (fX5_tipped (M 0)) (fun a6 => (some (a6, M)))) else (Option.bind (fX5_finds M (-1000000001)) (fun a7 => (some (a7.1, (a7.2)))))))))
theorem bX5_count {Z : Zt} {E : Ec} {N : Ml} (C : Ok 2 Z E cX5_count 2 RX5 (some .int) 3)    (M : Mi) (x1 : Int32)  : GT Z E 2 (finX5_count N) 0 [(0, .ref (zA Z 6 0)), (1, .int x1)] [] M N (fX5_count M x1) := by
  unfold fX5_count
  refine r_iload_n C dX5_count_0 1 1 rfl rfl ?_
  refine r_tsw (k := 0) (tgt := 32) C dX5_count_1 (by decide) (by decide) rfl (by decide) (fun c1 => ?_) (fun c1 => ?_)
  · refine r_aload_n C dX5_count_32 0 0 rfl rfl ?_
    refine gf_X5_7 C dX5_count_33 ?_
    refine r_iconst (v := 1) C dX5_count_36 (by decide) ?_
    refine ald_M (v := (M 0 1)) C mI_0 (by decide) rfl dX5_count_37 ?_
    exact r_iret C dX5_count_38 rfl
  · skip
    refine r_tsw (k := 1) (tgt := 39) C dX5_count_1 (by decide) (by decide) rfl (by decide) (fun c2 => ?_) (fun c2 => ?_)
    · refine r_aload_n C dX5_count_39 0 0 rfl rfl ?_
      refine gf_X5_214 (v := (M 6 2)) C dX5_count_40 rfl ?_
      exact r_iret C dX5_count_43 rfl
    · skip
      refine r_tsw (k := 2) (tgt := 44) C dX5_count_1 (by decide) (by decide) rfl (by decide) (fun c3 => ?_) (fun c3 => ?_)
      · refine r_aload_n C dX5_count_44 0 0 rfl rfl ?_
        refine gf_X5_7 C dX5_count_45 ?_
        refine r_iconst (v := 2) C dX5_count_48 (by decide) ?_
        refine ald_M (v := (M 0 2)) C mI_0 (by decide) rfl dX5_count_49 ?_
        refine r_bind (fun a4 ha4 => ?_)
        refine r_callS (rest := []) (st2 := [.int a4]) C (mX5_ones (eL E) C.z _ _ (M 0 2) a4 ha4) lk_X5_145 (by decide) rfl rfl (Nat.le_of_ble_eq_true rfl) dX5_count_50 rfl ?_
        exact r_iret C dX5_count_53 rfl
      · skip
        refine r_tsw (k := 3) (tgt := 54) C dX5_count_1 (by decide) (by decide) rfl (by decide) (fun c5 => ?_) (fun c5 => ?_)
        · refine r_aload_n C dX5_count_54 0 0 rfl rfl ?_
          refine r_bind (fun a6 ha6 => ?_)
          refine r_callV (rest := []) (st2 := [.int a6]) C (mX5_tipped (eL E) C.z M _ (M 0) a6 ha6).selfR lk_X5_344 (rvM C) (by decide) rfl rfl (Nat.le_of_ble_eq_true rfl) dX5_count_55 rfl ?_
          exact r_iret C dX5_count_58 rfl
        · skip
          refine r_tswd (tgt := 59) C dX5_count_1 (sw_out (lo := 0) (hi := 3) (n := 4) x1 [0, 1, 2, 3] (by decide) rfl (List.forall_mem_cons.mpr ⟨c1, List.forall_mem_cons.mpr ⟨c2, List.forall_mem_cons.mpr ⟨c3, List.forall_mem_cons.mpr ⟨c5, fun _ h => absurd h List.not_mem_nil⟩⟩⟩⟩)) (by decide) ?_
          refine r_aload_n C dX5_count_59 0 0 rfl rfl ?_
          refine r_ldc (v := (-1000000001)) C dX5_count_60 wd_859 ?_
          refine r_bind (fun a7 ha7 => ?_)
          refine r_callV (rest := []) (st2 := [.int a7.1]) C (mX5_finds (eL E) C.z M N (-1000000001) a7 ha7) lk_X5_65 (rvM C) (by decide) rfl rfl (Nat.le_of_ble_eq_true rfl) dX5_count_62 rfl ?_
          exact r_iret C dX5_count_65 rfl
theorem mX5_count (l : Launch) {Z : Zt} (hZ : Zok 2 Z) (M : Mi) (N : Ml) (x1 : Int32) (b : Int32 × Mi) (hb : fX5_count M x1 = some b) : Ct 2 Z l yX5_count cX5_count 2 (some .int) 3 [.ref (zA Z 6 0), .int x1] M N (some (Value.int b.1), b.2, N) :=
  metG (fin := (finX5_count N)) (by decide) (Nat.le_of_ble_eq_true rfl) (fun E _ C => bX5_count C M x1) hb
theorem dX5_status_0 : decode cX5_status 0 = .ok (.iload_n 1, 1) := by decide +kernel
theorem dX5_status_1 : decode cX5_status 1 = .ok (.i2l, 1) := by decide +kernel
theorem dX5_status_2 : decode cX5_status 2 = .ok (.ldc2_w 347, 3) := by decide +kernel
theorem dX5_status_5 : decode cX5_status 5 = .ok (.ldc2_w 349, 3) := by decide +kernel
theorem dX5_status_8 : decode cX5_status 8 = .ok (.invokestatic 44, 3) := by decide +kernel
theorem dX5_status_11 : decode cX5_status 11 = .ok (.ifCond .ne 10, 3) := by decide +kernel
theorem dX5_status_14 : decode cX5_status 14 = .ok (.aload_n 0, 1) := by decide +kernel
theorem dX5_status_15 : decode cX5_status 15 = .ok (.ldc 41, 2) := by decide +kernel
theorem dX5_status_17 : decode cX5_status 17 = .ok (.invokevirtual 65, 3) := by decide +kernel
theorem dX5_status_20 : decode cX5_status 20 = .ok (.ireturn, 1) := by decide +kernel
theorem dX5_status_21 : decode cX5_status 21 = .ok (.iconst 0, 1) := by decide +kernel
theorem dX5_status_22 : decode cX5_status 22 = .ok (.istore_n 2, 1) := by decide +kernel
theorem dX5_status_23 : decode cX5_status 23 = .ok (.iconst 0, 1) := by decide +kernel
theorem dX5_status_24 : decode cX5_status 24 = .ok (.istore_n 3, 1) := by decide +kernel
theorem dX5_status_25 : decode cX5_status 25 = .ok (.iload_n 3, 1) := by decide +kernel
theorem dX5_status_26 : decode cX5_status 26 = .ok (.bipush 7, 2) := by decide +kernel
theorem dX5_status_28 : decode cX5_status 28 = .ok (.if_icmp .ge 31, 3) := by decide +kernel
theorem dX5_status_31 : decode cX5_status 31 = .ok (.iload_n 2, 1) := by decide +kernel
theorem dX5_status_32 : decode cX5_status 32 = .ok (.iload_n 1, 1) := by decide +kernel
theorem dX5_status_33 : decode cX5_status 33 = .ok (.ifCond .lt 8, 3) := by decide +kernel
theorem dX5_status_36 : decode cX5_status 36 = .ok (.iload_n 3, 1) := by decide +kernel
theorem dX5_status_37 : decode cX5_status 37 = .ok (.iload_n 1, 1) := by decide +kernel
theorem dX5_status_38 : decode cX5_status 38 = .ok (.if_icmp .ne 12, 3) := by decide +kernel
theorem dX5_status_41 : decode cX5_status 41 = .ok (.aload_n 0, 1) := by decide +kernel
theorem dX5_status_42 : decode cX5_status 42 = .ok (.getfield 22, 3) := by decide +kernel
theorem dX5_status_45 : decode cX5_status 45 = .ok (.iload_n 3, 1) := by decide +kernel
theorem dX5_status_46 : decode cX5_status 46 = .ok (.iaload, 1) := by decide +kernel
theorem dX5_status_47 : decode cX5_status 47 = .ok (.goto 4, 3) := by decide +kernel
theorem dX5_status_50 : decode cX5_status 50 = .ok (.iconst 0, 1) := by decide +kernel
theorem dX5_status_51 : decode cX5_status 51 = .ok (.iadd, 1) := by decide +kernel
theorem dX5_status_52 : decode cX5_status 52 = .ok (.istore_n 2, 1) := by decide +kernel
theorem dX5_status_53 : decode cX5_status 53 = .ok (.iinc 3 1, 3) := by decide +kernel
theorem dX5_status_56 : decode cX5_status 56 = .ok (.goto (-31), 3) := by decide +kernel
theorem dX5_status_59 : decode cX5_status 59 = .ok (.iload_n 2, 1) := by decide +kernel
theorem dX5_status_60 : decode cX5_status 60 = .ok (.ireturn, 1) := by decide +kernel
def finX5_status (N : Ml) : Int32 × Mi → Option Value × Mi × Ml := fun b => (some (Value.int b.1), b.2, N)
noncomputable def fX5_status_41  (r25 : Mi → Int32 → Int32 → Int32 → Option (Int32 × Mi)) (M : Mi) (x1 : Int32) (x3 : Int32) (s0 : Int32) : Option (Int32 × Mi) := (if inb x3 7 then (r25 M x1 (s0 + (M 4 (ix x3))) (x3 + 1)) else none)
theorem bX5_status_41 {Z : Zt} {E : Ec} {N : Ml} (C : Ok 2 Z E cX5_status 4 RX5 (some .int) 1)  (r25 : Mi → Int32 → Int32 → Int32 → Option (Int32 × Mi)) (hr25 : ∀ (M : Mi) (x1 : Int32) (x2 : Int32) (x3 : Int32), GT Z E 4 (finX5_status N) 25 [(0, .ref (zA Z 6 0)), (1, .int x1), (2, .int x2), (3, .int x3)] [] M N (r25 M x1 x2 x3)) (M : Mi) (x1 : Int32) (x3 : Int32) (s0 : Int32)  : GT Z E 4 (finX5_status N) 41 [(0, .ref (zA Z 6 0)), (1, .int x1), (3, .int x3)] [.int s0] M N (fX5_status_41 r25 M x1 x3 s0) := by
  unfold fX5_status_41
  refine r_aload_n C dX5_status_41 0 0 rfl rfl ?_
  refine gf_X5_22 C dX5_status_42 ?_
  refine r_iload_n C dX5_status_45 3 2 rfl rfl ?_
  refine r_guard (fun h4 => ?_)
  refine ald_M (v := (M 4 (ix x3))) C mI_4 h4 rfl dX5_status_46 ?_
  refine r_goto (tgt := 51) C dX5_status_47 (by decide) ?_
  refine r_iadd C dX5_status_51 ?_
  refine r_istore_n (lv' := [(2, .int (s0 + (M 4 (ix x3)))), (0, .ref (zA Z 6 0)), (1, .int x1), (3, .int x3)]) C dX5_status_52 2 rfl (by decide) rfl ?_
  refine r_iinc (v := (x3 + 1)) (lv' := [(3, .int (x3 + 1)), (2, .int (s0 + (M 4 (ix x3)))), (0, .ref (zA Z 6 0)), (1, .int x1)]) C dX5_status_53 3 rfl rfl (by decide) rfl ?_
  refine r_goto (tgt := 25) C dX5_status_56 (by decide) ?_
  refine r_lv [2, 3, 1, 0] (lv' := [(0, .ref (zA Z 6 0)), (1, .int x1), (2, .int (s0 + (M 4 (ix x3)))), (3, .int (x3 + 1))]) rfl ?_
  exact hr25 M x1 (s0 + (M 4 (ix x3))) (x3 + 1)
noncomputable def fX5_status_25   : Nat → Mi → Int32 → Int32 → Int32 → Option (Int32 × Mi)
  | 0 => fun _ _ _ _ => none
  | n + 1 => fun M x1 x2 x3 => (if 7 ≤ x3 then (some (x2, M)) else (if x1 < 0 then (fX5_status_41 (fX5_status_25 n) M x1 x3 x2) else (if x3 = x1 then (fX5_status_41 (fX5_status_25 n) M x1 x3 x2) else ((fX5_status_25 n) M x1 (x2 + 0) (x3 + 1)))))
theorem bX5_status_25 {Z : Zt} {E : Ec} {N : Ml} (C : Ok 2 Z E cX5_status 4 RX5 (some .int) 1)    : ∀ (n : Nat) (M : Mi) (x1 : Int32) (x2 : Int32) (x3 : Int32), GT Z E 4 (finX5_status N) 25 [(0, .ref (zA Z 6 0)), (1, .int x1), (2, .int x2), (3, .int x3)] [] M N (fX5_status_25 n M x1 x2 x3) := by
  intro n
  induction n with
  | zero => intro M x1 x2 x3; exact r_none
  | succ n ih =>
    intro M x1 x2 x3
    rw [fX5_status_25]
    refine r_iload_n C dX5_status_25 3 3 rfl rfl ?_
    refine r_bipush (v := 7) C dX5_status_26 (by decide) ?_
    refine r_ic_ge (tgt := 59) C dX5_status_28 (by decide) (fun c2 => ?_) (fun c2 => ?_)
    · refine r_iload_n C dX5_status_59 2 2 rfl rfl ?_
      exact r_iret C dX5_status_60 rfl
    · refine r_iload_n C dX5_status_31 2 2 rfl rfl ?_
      refine r_iload_n C dX5_status_32 1 1 rfl rfl ?_
      refine r_if_lt (tgt := 41) C dX5_status_33 (by decide) (fun c3 => ?_) (fun c3 => ?_)
      · refine r_lv [0, 1, 3] (lv' := [(0, .ref (zA Z 6 0)), (1, .int x1), (3, .int x3)]) rfl ?_
        exact bX5_status_41 C (fX5_status_25 n) ih M x1 x3 x2
      · refine r_iload_n C dX5_status_36 3 3 rfl rfl ?_
        refine r_iload_n C dX5_status_37 1 1 rfl rfl ?_
        refine r_ic_ne (tgt := 50) C dX5_status_38 (by decide) (fun c5 => ?_) (fun c5 => ?_)
        · refine r_iconst (v := 0) C dX5_status_50 (by decide) ?_
          refine r_iadd C dX5_status_51 ?_
          refine r_istore_n (lv' := [(2, .int (x2 + 0)), (0, .ref (zA Z 6 0)), (1, .int x1), (3, .int x3)]) C dX5_status_52 2 rfl (by decide) rfl ?_
          refine r_iinc (v := (x3 + 1)) (lv' := [(3, .int (x3 + 1)), (2, .int (x2 + 0)), (0, .ref (zA Z 6 0)), (1, .int x1)]) C dX5_status_53 3 rfl rfl (by decide) rfl ?_
          refine r_goto (tgt := 25) C dX5_status_56 (by decide) ?_
          refine r_lv [2, 3, 1, 0] (lv' := [(0, .ref (zA Z 6 0)), (1, .int x1), (2, .int (x2 + 0)), (3, .int (x3 + 1))]) rfl ?_
          exact ih M x1 (x2 + 0) (x3 + 1)
        · refine r_lv [0, 1, 3] (lv' := [(0, .ref (zA Z 6 0)), (1, .int x1), (3, .int x3)]) rfl ?_
          exact bX5_status_41 C (fX5_status_25 n) ih M x1 x3 x2
noncomputable def fX5_status   (M : Mi) (x1 : Int32) : Option (Int32 × Mi) := (if (fX5_in (Int32.toInt64 x1) (-1) 6) = 0 then (Option.bind (fX5_finds M (-1000000001)) (fun a6 => (some (a6.1, (a6.2))))) else (fX5_status_25 fu M x1 0 0))
theorem bX5_status {Z : Zt} {E : Ec} {N : Ml} (C : Ok 2 Z E cX5_status 4 RX5 (some .int) 1)    (M : Mi) (x1 : Int32)  : GT Z E 4 (finX5_status N) 0 [(0, .ref (zA Z 6 0)), (1, .int x1)] [] M N (fX5_status M x1) := by
  unfold fX5_status
  refine r_iload_n C dX5_status_0 1 1 rfl rfl ?_
  refine r_i2l C dX5_status_1 ?_
  refine r_ldc2 (v := (-1)) C dX5_status_2 wd_1298 ?_
  refine r_ldc2 (v := 6) C dX5_status_5 wd_1299 ?_
  refine r_callS (rest := []) (st2 := [.int (fX5_in (Int32.toInt64 x1) (-1) 6)]) C (mX5_in (eL E) C.z _ _ (Int32.toInt64 x1) (-1) 6) lk_X5_44 (by decide) rfl rfl (Nat.le_of_ble_eq_true rfl) dX5_status_8 rfl ?_
  refine r_if_ne (tgt := 21) C dX5_status_11 (by decide) (fun c1 => ?_) (fun c1 => ?_)
  · refine r_iconst (v := 0) C dX5_status_21 (by decide) ?_
    refine r_istore_n (lv' := [(2, .int 0), (0, .ref (zA Z 6 0)), (1, .int x1)]) C dX5_status_22 2 rfl (by decide) rfl ?_
    refine r_iconst (v := 0) C dX5_status_23 (by decide) ?_
    refine r_istore_n (lv' := [(3, .int 0), (2, .int 0), (0, .ref (zA Z 6 0)), (1, .int x1)]) C dX5_status_24 3 rfl (by decide) rfl ?_
    refine r_lv [2, 3, 1, 0] (lv' := [(0, .ref (zA Z 6 0)), (1, .int x1), (2, .int 0), (3, .int 0)]) rfl ?_
    exact bX5_status_25 C fu M x1 0 0
  · refine r_aload_n C dX5_status_14 0 0 rfl rfl ?_
    refine r_ldc (v := (-1000000001)) C dX5_status_15 wd_859 ?_
    refine r_bind (fun a6 ha6 => ?_)
    refine r_callV (rest := []) (st2 := [.int a6.1]) C (mX5_finds (eL E) C.z M N (-1000000001) a6 ha6) lk_X5_65 (rvM C) (by decide) rfl rfl (Nat.le_of_ble_eq_true rfl) dX5_status_17 rfl ?_
    exact r_iret C dX5_status_20 rfl
theorem mX5_status (l : Launch) {Z : Zt} (hZ : Zok 2 Z) (M : Mi) (N : Ml) (x1 : Int32) (b : Int32 × Mi) (hb : fX5_status M x1 = some b) : Ct 2 Z l yX5_status cX5_status 4 (some .int) 1 [.ref (zA Z 6 0), .int x1] M N (some (Value.int b.1), b.2, N) :=
  metG (fin := (finX5_status N)) (by decide) (Nat.le_of_ble_eq_true rfl) (fun E _ C => bX5_status C M x1) hb
