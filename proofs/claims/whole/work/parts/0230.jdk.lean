theorem dJ0_length_8abf5_0 : decode cJ0_length_8abf5 0 = .ok (.aload_n 0, 1) := by decide +kernel
theorem dJ0_length_8abf5_1 : decode cJ0_length_8abf5 1 = .ok (.getfield 9, 3) := by decide +kernel
theorem dJ0_length_8abf5_4 : decode cJ0_length_8abf5 4 = .ok (.arraylength, 1) := by decide +kernel
theorem dJ0_length_8abf5_5 : decode cJ0_length_8abf5 5 = .ok (.aload_n 0, 1) := by decide +kernel
theorem dJ0_length_8abf5_6 : decode cJ0_length_8abf5 6 = .ok (.invokevirtual 335, 3) := by decide +kernel
theorem dJ0_length_8abf5_9 : decode cJ0_length_8abf5 9 = .ok (.ishr, 1) := by decide +kernel
theorem dJ0_length_8abf5_10 : decode cJ0_length_8abf5 10 = .ok (.ireturn, 1) := by decide +kernel
theorem dJ0_charAt_5068e_0 : decode cJ0_charAt_5068e 0 = .ok (.aload_n 0, 1) := by decide +kernel
theorem dJ0_charAt_5068e_1 : decode cJ0_charAt_5068e 1 = .ok (.invokevirtual 492, 3) := by decide +kernel
theorem dJ0_charAt_5068e_4 : decode cJ0_charAt_5068e 4 = .ok (.ifCond .eq 12, 3) := by decide +kernel
theorem dJ0_charAt_5068e_7 : decode cJ0_charAt_5068e 7 = .ok (.aload_n 0, 1) := by decide +kernel
theorem dJ0_charAt_5068e_8 : decode cJ0_charAt_5068e 8 = .ok (.getfield 9, 3) := by decide +kernel
theorem dJ0_charAt_5068e_11 : decode cJ0_charAt_5068e 11 = .ok (.iload_n 1, 1) := by decide +kernel
theorem dJ0_charAt_5068e_12 : decode cJ0_charAt_5068e 12 = .ok (.invokestatic 495, 3) := by decide +kernel
theorem dJ0_charAt_5068e_15 : decode cJ0_charAt_5068e 15 = .ok (.ireturn, 1) := by decide +kernel
theorem dJ0_charAt_5068e_16 : decode cJ0_charAt_5068e 16 = .ok (.aload_n 0, 1) := by decide +kernel
theorem dJ0_charAt_5068e_17 : decode cJ0_charAt_5068e 17 = .ok (.getfield 9, 3) := by decide +kernel
theorem dJ0_charAt_5068e_20 : decode cJ0_charAt_5068e 20 = .ok (.iload_n 1, 1) := by decide +kernel
theorem dJ0_charAt_5068e_21 : decode cJ0_charAt_5068e 21 = .ok (.invokestatic 498, 3) := by decide +kernel
theorem dJ0_charAt_5068e_24 : decode cJ0_charAt_5068e 24 = .ok (.ireturn, 1) := by decide +kernel
theorem dJ0_coder_7d493_0 : decode cJ0_coder_7d493 0 = .ok (.getstatic 38, 3) := by decide +kernel
theorem dJ0_coder_7d493_3 : decode cJ0_coder_7d493 3 = .ok (.ifCond .eq 10, 3) := by decide +kernel
theorem dJ0_coder_7d493_6 : decode cJ0_coder_7d493 6 = .ok (.aload_n 0, 1) := by decide +kernel
theorem dJ0_coder_7d493_7 : decode cJ0_coder_7d493 7 = .ok (.getfield 15, 3) := by decide +kernel
theorem dJ0_coder_7d493_10 : decode cJ0_coder_7d493 10 = .ok (.goto 4, 3) := by decide +kernel
theorem dJ0_coder_7d493_13 : decode cJ0_coder_7d493 13 = .ok (.iconst 1, 1) := by decide +kernel
theorem dJ0_coder_7d493_14 : decode cJ0_coder_7d493 14 = .ok (.ireturn, 1) := by decide +kernel
theorem dJ0_isLatin1_aae02_0 : decode cJ0_isLatin1_aae02 0 = .ok (.getstatic 38, 3) := by decide +kernel
theorem dJ0_isLatin1_aae02_3 : decode cJ0_isLatin1_aae02 3 = .ok (.ifCond .eq 14, 3) := by decide +kernel
theorem dJ0_isLatin1_aae02_6 : decode cJ0_isLatin1_aae02 6 = .ok (.aload_n 0, 1) := by decide +kernel
theorem dJ0_isLatin1_aae02_7 : decode cJ0_isLatin1_aae02 7 = .ok (.getfield 15, 3) := by decide +kernel
theorem dJ0_isLatin1_aae02_10 : decode cJ0_isLatin1_aae02 10 = .ok (.ifCond .ne 7, 3) := by decide +kernel
theorem dJ0_isLatin1_aae02_13 : decode cJ0_isLatin1_aae02 13 = .ok (.iconst 1, 1) := by decide +kernel
theorem dJ0_isLatin1_aae02_14 : decode cJ0_isLatin1_aae02 14 = .ok (.goto 4, 3) := by decide +kernel
theorem dJ0_isLatin1_aae02_17 : decode cJ0_isLatin1_aae02 17 = .ok (.iconst 0, 1) := by decide +kernel
theorem dJ0_isLatin1_aae02_18 : decode cJ0_isLatin1_aae02 18 = .ok (.ireturn, 1) := by decide +kernel
theorem dJ0_checkIndex_df160_0 : decode cJ0_checkIndex_df160 0 = .ok (.iload_n 0, 1) := by decide +kernel
theorem dJ0_checkIndex_df160_1 : decode cJ0_checkIndex_df160 1 = .ok (.iload_n 1, 1) := by decide +kernel
theorem dJ0_checkIndex_df160_2 : decode cJ0_checkIndex_df160 2 = .ok (.getstatic 1053, 3) := by decide +kernel
theorem dJ0_checkIndex_df160_5 : decode cJ0_checkIndex_df160 5 = .ok (.invokestatic 1059, 3) := by decide +kernel
theorem dJ0_checkIndex_df160_8 : decode cJ0_checkIndex_df160 8 = .ok (.pop, 1) := by decide +kernel
theorem dJ0_checkIndex_df160_9 : decode cJ0_checkIndex_df160 9 = .ok (.return_, 1) := by decide +kernel
theorem dJ1_charAt_3b067_0 : decode cJ1_charAt_3b067 0 = .ok (.iload_n 1, 1) := by decide +kernel
theorem dJ1_charAt_3b067_1 : decode cJ1_charAt_3b067 1 = .ok (.aload_n 0, 1) := by decide +kernel
theorem dJ1_charAt_3b067_2 : decode cJ1_charAt_3b067 2 = .ok (.arraylength, 1) := by decide +kernel
theorem dJ1_charAt_3b067_3 : decode cJ1_charAt_3b067 3 = .ok (.invokestatic 9, 3) := by decide +kernel
theorem dJ1_charAt_3b067_6 : decode cJ1_charAt_3b067 6 = .ok (.aload_n 0, 1) := by decide +kernel
theorem dJ1_charAt_3b067_7 : decode cJ1_charAt_3b067 7 = .ok (.iload_n 1, 1) := by decide +kernel
theorem dJ1_charAt_3b067_8 : decode cJ1_charAt_3b067 8 = .ok (.baload, 1) := by decide +kernel
theorem dJ1_charAt_3b067_9 : decode cJ1_charAt_3b067 9 = .ok (.sipush 255, 3) := by decide +kernel
theorem dJ1_charAt_3b067_12 : decode cJ1_charAt_3b067 12 = .ok (.iand, 1) := by decide +kernel
theorem dJ1_charAt_3b067_13 : decode cJ1_charAt_3b067 13 = .ok (.i2c, 1) := by decide +kernel
theorem dJ1_charAt_3b067_14 : decode cJ1_charAt_3b067 14 = .ok (.ireturn, 1) := by decide +kernel
theorem dJ3_checkIndex_8e157_0 : decode cJ3_checkIndex_8e157 0 = .ok (.iload_n 0, 1) := by decide +kernel
theorem dJ3_checkIndex_8e157_1 : decode cJ3_checkIndex_8e157 1 = .ok (.ifCond .lt 8, 3) := by decide +kernel
theorem dJ3_checkIndex_8e157_4 : decode cJ3_checkIndex_8e157 4 = .ok (.iload_n 0, 1) := by decide +kernel
theorem dJ3_checkIndex_8e157_5 : decode cJ3_checkIndex_8e157 5 = .ok (.iload_n 1, 1) := by decide +kernel
theorem dJ3_checkIndex_8e157_6 : decode cJ3_checkIndex_8e157 6 = .ok (.if_icmp .lt 10, 3) := by decide +kernel
theorem dJ3_checkIndex_8e157_9 : decode cJ3_checkIndex_8e157 9 = .ok (.aload_n 2, 1) := by decide +kernel
theorem dJ3_checkIndex_8e157_10 : decode cJ3_checkIndex_8e157 10 = .ok (.iload_n 0, 1) := by decide +kernel
theorem dJ3_checkIndex_8e157_11 : decode cJ3_checkIndex_8e157 11 = .ok (.iload_n 1, 1) := by decide +kernel
theorem dJ3_checkIndex_8e157_12 : decode cJ3_checkIndex_8e157 12 = .ok (.invokestatic 95, 3) := by decide +kernel
theorem dJ3_checkIndex_8e157_15 : decode cJ3_checkIndex_8e157 15 = .ok (.athrow, 1) := by decide +kernel
theorem dJ3_checkIndex_8e157_16 : decode cJ3_checkIndex_8e157 16 = .ok (.iload_n 0, 1) := by decide +kernel
theorem dJ3_checkIndex_8e157_17 : decode cJ3_checkIndex_8e157 17 = .ok (.ireturn, 1) := by decide +kernel
def slen (w : Nat) : Int32 := Int32.ofNat (sLen.getD w 0)
def sby (w j : Nat) : Int32 := (sByt.getD w []).getD j 0
theorem slen_sh : ∀ w, w < 14 → slen w >>> ((0 : Int32) &&& 31) = slen w := by decide +kernel
theorem slen_8 : ∀ w, w < 14 → sLen.getD w 0 ≤ 8 := by decide +kernel
theorem sby_c : ∀ w, w < 14 → ∀ j, j < 8 → ((sby w j &&& 255).toUInt32 % 65536).toInt32 = sby w j := by decide +kernel
theorem sby_n : ∀ w, w < 14 → ∀ j, j < 8 → narrow .char (.int (sby w j)) = .int (sby w j) := by decide +kernel
theorem slen_lt : ∀ w, w < 14 → ∀ j : Nat, j < sLen.getD w 0 → Int32.ofNat j < slen w := by
  intro w hw j hj
  have h8 := slen_8 w hw
  have : ∀ w, w < 14 → ∀ j : Nat, j < 8 → j < sLen.getD w 0 → Int32.ofNat j < slen w := by decide +kernel
  exact this w hw j (by omega) hj
theorem ix_nI {i : Int32} (h : ¬ i < 0) : Int32.ofNat (ix i) = i := by
  obtain ⟨j, hj, rfl⟩ := nI_of h
  show Int32.ofNat (nI j).toNatClampNeg = nI j
  rw [nI_clamp hj]; rfl
section JDKR
variable {Z : Zt} {E : Ec} {cc : ByteArray} {nL : Nat} {own : String} {ret : Option FieldType} {h : Nat} {β : Type} {fin : β → Option Value × Mi × Ml} {pc : Nat} {lv lv' : List (Nat × Value)} {st rest : List Value} {M M' : Mi} {N N' : Ml} {t t1 t2 : Option β} {w : Nat}
theorem gs_coder (C : Ok 1 Z E cc nL RJ0 ret h) (hw : w < 14) (hd : decode cc pc = .ok (.getfield 15, 3)) (kk : GT Z E nL fin (pc + 3) lv (.int 0 :: rest) M N t) : GT Z E nL fin pc lv (.ref (zA Z 40 w) :: rest) M N t :=
  fun b hb H locs ls h1 h2 h3 h4 => vk_getf C.x C.b (((C.z.S _ C.sta).2.2.1.1 w hw).2.1) (h2.S h3) C.ow (C.ts _ wd_1302) (fun _ q => q) hd (kk b hb H locs ls h1 h2 h3 h4)
theorem gs_value (C : Ok 1 Z E cc nL RJ0 ret h) (hw : w < 14) (hd : decode cc pc = .ok (.getfield 9, 3)) (kk : GT Z E nL fin (pc + 3) lv (.ref (zA Z 41 w) :: rest) M N t) : GT Z E nL fin pc lv (.ref (zA Z 40 w) :: rest) M N t :=
  fun b hb H locs ls h1 h2 h3 h4 => vk_getf C.x C.b (((C.z.S _ C.sta).2.2.1.1 w hw).2.2.1) (h2.S h3) C.ow (C.ts _ wd_1301) (fun _ q => q) hd (kk b hb H locs ls h1 h2 h3 h4)
theorem gs_len (C : Ok 1 Z E cc nL own ret h) (hw : w < 14) (hd : decode cc pc = .ok (.arraylength, 1)) (kk : GT Z E nL fin (pc + 1) lv (.int (slen w) :: rest) M N t) : GT Z E nL fin pc lv (.ref (zA Z 41 w) :: rest) M N t :=
  fun b hb H locs ls h1 h2 h3 h4 => va_tlen C.x C.b (((C.z.S _ C.sta).2.2.1.1 w hw).2.2.2) (h2.S h3) rfl hd (kk b hb H locs ls h1 h2 h3 h4)
theorem gs_bald {i : Int32} (C : Ok 1 Z E cc nL own ret h) (hw : w < 14) (hin : inb i (sLen.getD w 0)) (hd : decode cc pc = .ok (.baload, 1)) (kk : GT Z E nL fin (pc + 1) lv (.int (sby w (ix i)) :: rest) M N t) : GT Z E nL fin pc lv (.int i :: .ref (zA Z 41 w) :: rest) M N t :=
  fun b hb H locs ls h1 h2 h3 h4 => va_tb C.x C.b (((C.z.S _ C.sta).2.2.1.1 w hw).2.2.2) (h2.S h3) (inb_in hin) rfl hd (kk b hb H locs ls h1 h2 h3 h4)
theorem gs_compact (C : Ok 1 Z E cc nL RJ0 ret h) (hd : decode cc pc = .ok (.getstatic 38, 3)) (kk : GT Z E nL fin (pc + 3) lv (.int 1 :: rest) M N t) : GT Z E nL fin pc lv rest M N t :=
  fun b hb H locs ls h1 h2 h3 h4 => va_gets C.x C.b (C.z.S _ C.sta).2.2.2.2.1 (h2.S h3) C.ow (C.ts _ wd_637) (fun _ q => q) hd (kk b hb H locs ls h1 h2 h3 h4)
theorem gs_fmt (C : Ok 1 Z E cc nL RJ0 ret h) (hd : decode cc pc = .ok (.getstatic 1053, 3)) (kk : ∀ v : Value, (v = .null ∨ ∃ a, v = .ref a) → GT Z E nL fin (pc + 3) lv (v :: rest) M N t) : GT Z E nL fin pc lv rest M N t := by
  intro b hb H locs ls h1 h2 h3 h4
  rcases (C.z.S _ C.sta).2.2.2.2.2 with hz | ⟨a, hz⟩
  · exact va_gets C.x C.b hz (h2.S h3) C.ow (C.ts _ wd_653) (fun _ q => q) hd (kk _ (Or.inl rfl) b hb H locs ls h1 h2 h3 h4)
  · exact va_gets C.x C.b hz (h2.S h3) C.ow (C.ts _ wd_653) (fun _ q => q) hd (kk _ (Or.inr ⟨a, rfl⟩) b hb H locs ls h1 h2 h3 h4)
theorem r_i2c {x : Int32} (C : Ok 1 Z E cc nL own ret h) (hd : decode cc pc = .ok (.i2c, 1)) (kk : GT Z E nL fin (pc + 1) lv (.int ((x.toUInt32 % 65536).toInt32) :: rest) M N t) : GT Z E nL fin pc lv (.int x :: rest) M N t :=
  fun b hb H locs ls h1 h2 h3 h4 => lv_i2c C.x C.b hd rfl (kk b hb H locs ls h1 h2 h3 h4)
theorem r_nret {ty : FieldType} {b : β} {v : Int32} (C : Ok 1 Z E cc nL own (some ty) h) (hd : decode cc pc = .ok (.ireturn, 1)) (hn : narrow ty (.int v) = .int v) (hf : fin b = (some (.int v), M, N)) : GT Z E nL fin pc lv [.int v] M N (some b) := by
  intro b' hb' H locs ls h1 h2 h3 h4
  cases hb'
  exact W.zret C.x C.b C.rt hn (fun t ht _ => ⟨by rw [hf], by rw [hf, ht]; exact h1, by rw [ht]; exact h2⟩) h3 hd C.lk
end JDKR
def finC (M : Mi) (N : Ml) : Int32 → Option Value × Mi × Ml := fun b => (some (.int b), M, N)
def finU (M : Mi) (N : Ml) : Unit → Option Value × Mi × Ml := fun _ => (none, M, N)
theorem mJ0_coder_7d493 (l : Launch) {Z : Zt} (hZ : Zok 1 Z) {w : Nat} (hw : w < 14) (M : Mi) (N : Ml) : Ct 1 Z l yJ0_coder_7d493 cJ0_coder_7d493 1 (some .byte) 0 [.ref (zA Z 40 w)] M N (some (.int 0), M, N) := by
  refine metG (fin := finC M N) (t := some 0) (by decide) (Nat.le_of_ble_eq_true rfl) (fun E _ C => ?_) rfl
  refine gs_compact C dJ0_coder_7d493_0 ?_
  refine r_same (P := (1 : Int32) = 0) ?_
  refine r_if_eq (tgt := 13) C dJ0_coder_7d493_3 (by decide) (fun c => absurd c (by decide)) (fun _ => ?_)
  refine r_aload_n C dJ0_coder_7d493_6 0 0 rfl rfl ?_
  refine gs_coder C hw dJ0_coder_7d493_7 ?_
  refine r_goto (tgt := 14) C dJ0_coder_7d493_10 (by decide) ?_
  exact r_nret C dJ0_coder_7d493_14 rfl rfl
theorem mJ0_isLatin1_aae02 (l : Launch) {Z : Zt} (hZ : Zok 1 Z) {w : Nat} (hw : w < 14) (M : Mi) (N : Ml) : Ct 1 Z l yJ0_isLatin1_aae02 cJ0_isLatin1_aae02 1 (some .boolean) 0 [.ref (zA Z 40 w)] M N (some (.int 1), M, N) := by
  refine metG (fin := finC M N) (t := some 1) (by decide) (Nat.le_of_ble_eq_true rfl) (fun E _ C => ?_) rfl
  refine gs_compact C dJ0_isLatin1_aae02_0 ?_
  refine r_same (P := (1 : Int32) = 0) ?_
  refine r_if_eq (tgt := 17) C dJ0_isLatin1_aae02_3 (by decide) (fun c => absurd c (by decide)) (fun _ => ?_)
  refine r_aload_n C dJ0_isLatin1_aae02_6 0 0 rfl rfl ?_
  refine gs_coder C hw dJ0_isLatin1_aae02_7 ?_
  refine r_same (P := (0 : Int32) = 0) ?_
  refine r_if_ne (tgt := 17) C dJ0_isLatin1_aae02_10 (by decide) (fun c => absurd rfl c) (fun _ => ?_)
  refine r_iconst (v := 1) C dJ0_isLatin1_aae02_13 (by decide) ?_
  refine r_goto (tgt := 18) C dJ0_isLatin1_aae02_14 (by decide) ?_
  exact r_nret C dJ0_isLatin1_aae02_18 rfl rfl
noncomputable def fJ0_length_8abf5 (w : Nat) : Int32 := slen w
theorem mJ0_length_8abf5 (l : Launch) {Z : Zt} (hZ : Zok 1 Z) {w : Nat} (hw : w < 14) (M : Mi) (N : Ml) (_w : Nat) : Ct 1 Z l yJ0_length_8abf5 cJ0_length_8abf5 1 (some .int) 1 [.ref (zA Z 40 w)] M N (some (.int (fJ0_length_8abf5 w)), M, N) := by
  refine metG (fin := finC M N) (t := some (fJ0_length_8abf5 w)) (by decide) (Nat.le_of_ble_eq_true rfl) (fun E _ C => ?_) rfl
  refine r_aload_n C dJ0_length_8abf5_0 0 0 rfl rfl ?_
  refine gs_value C hw dJ0_length_8abf5_1 ?_
  refine gs_len C hw dJ0_length_8abf5_4 ?_
  refine r_aload_n C dJ0_length_8abf5_5 0 0 rfl rfl ?_
  refine r_callV (rest := [.int (slen w)]) (st2 := [.int 0, .int (slen w)]) C (mJ0_coder_7d493 (eL E) C.z hw _ _) lk_J0_335 (rvStr C hw) (by decide) rfl rfl (Nat.le_of_ble_eq_true rfl) dJ0_length_8abf5_6 rfl ?_
  refine r_ishr C dJ0_length_8abf5_9 ?_
  exact r_iret C dJ0_length_8abf5_10 (by rw [slen_sh w hw]; rfl)
theorem mJ3_checkIndex_8e157 (l : Launch) {Z : Zt} (hZ : Zok 1 Z) (M : Mi) (N : Ml) {i n : Int32} {v : Value} (hv : v = .null ∨ ∃ a, v = .ref a) (h0 : ¬ i < 0) (h1 : i < n) : Ct 1 Z l yJ3_checkIndex_8e157 cJ3_checkIndex_8e157 3 (some .int) 0 [.int i, .int n, v] M N (some (.int i), M, N) := by
  have key : ∀ u : Value, v = u → u.category = 1 → (lg_sl [.int i, .int n, u]).length ≤ 3 → lv_args 0 [.int i, .int n, u] = [(0, .int i), (1, .int n), (2, u)] → Ct 1 Z l yJ3_checkIndex_8e157 cJ3_checkIndex_8e157 3 (some .int) 0 [.int i, .int n, v] M N (some (.int i), M, N) := by
    intro u hu hc hl hq
    subst hu
    refine metG (fin := finC M N) (t := some i) (by decide) hl (fun E _ C => ?_) rfl
    rw [hq]
    refine r_iload_n C dJ3_checkIndex_8e157_0 0 0 rfl rfl ?_
    refine r_same (P := i < 0) ?_
    refine r_if_lt (tgt := 9) C dJ3_checkIndex_8e157_1 (by decide) (fun c => absurd c h0) (fun _ => ?_)
    refine r_iload_n C dJ3_checkIndex_8e157_4 0 0 rfl rfl ?_
    refine r_iload_n C dJ3_checkIndex_8e157_5 1 1 rfl rfl ?_
    refine r_same (P := i < n) ?_
    refine r_ic_lt (tgt := 16) C dJ3_checkIndex_8e157_6 (by decide) (fun _ => ?_) (fun c => absurd h1 c)
    refine r_iload_n C dJ3_checkIndex_8e157_16 0 0 rfl rfl ?_
    exact r_iret C dJ3_checkIndex_8e157_17 rfl
  rcases hv with hv | ⟨a, hv⟩
  · exact key _ hv rfl (Nat.le_of_ble_eq_true rfl) rfl
  · exact key _ hv rfl (Nat.le_of_ble_eq_true rfl) rfl
theorem mJ0_checkIndex_df160 (l : Launch) {Z : Zt} (hZ : Zok 1 Z) (M : Mi) (N : Ml) {i n : Int32} (h0 : ¬ i < 0) (h1 : i < n) : Ct 1 Z l yJ0_checkIndex_df160 cJ0_checkIndex_df160 2 none 1 [.int i, .int n] M N (none, M, N) := by
  refine metG (fin := finU M N) (t := some ()) (by decide) (Nat.le_of_ble_eq_true rfl) (fun E _ C => ?_) rfl
  refine r_iload_n C dJ0_checkIndex_df160_0 0 0 rfl rfl ?_
  refine r_iload_n C dJ0_checkIndex_df160_1 1 1 rfl rfl ?_
  refine gs_fmt C dJ0_checkIndex_df160_2 (fun v hv => ?_)
  refine r_callS (rest := []) (st2 := [.int i]) C (mJ3_checkIndex_8e157 (eL E) C.z _ _ hv h0 h1) lk_J0_1059 (by decide) rfl rfl (Nat.le_of_ble_eq_true rfl) dJ0_checkIndex_df160_5 rfl ?_
  refine r_pop C dJ0_checkIndex_df160_8 rfl ?_
  exact r_vret C dJ0_checkIndex_df160_9 rfl
theorem mJ1_charAt_3b067 (l : Launch) {Z : Zt} (hZ : Zok 1 Z) {w : Nat} (hw : w < 14) (M : Mi) (N : Ml) {i : Int32} (hin : inb i (sLen.getD w 0)) : Ct 1 Z l yJ1_charAt_3b067 cJ1_charAt_3b067 2 (some .char) 2 [.ref (zA Z 41 w), .int i] M N (some (.int (sby w (ix i))), M, N) := by
  have h8 : ix i < 8 := Nat.lt_of_lt_of_le hin.2 (slen_8 w hw)
  refine metG (fin := finC M N) (t := some (sby w (ix i))) (by decide) (Nat.le_of_ble_eq_true rfl) (fun E _ C => ?_) rfl
  refine r_iload_n C dJ1_charAt_3b067_0 1 1 rfl rfl ?_
  refine r_aload_n C dJ1_charAt_3b067_1 0 0 rfl rfl ?_
  refine gs_len C hw dJ1_charAt_3b067_2 ?_
  refine r_callS (rest := []) (st2 := []) C (mJ0_checkIndex_df160 (eL E) C.z _ _ hin.1 (by have q := slen_lt w hw _ hin.2; rw [ix_nI hin.1] at q; exact q)) lk_J1_9 (by decide) rfl rfl (Nat.le_of_ble_eq_true rfl) dJ1_charAt_3b067_3 rfl ?_
  refine r_aload_n C dJ1_charAt_3b067_6 0 0 rfl rfl ?_
  refine r_iload_n C dJ1_charAt_3b067_7 1 1 rfl rfl ?_
  refine gs_bald C hw hin dJ1_charAt_3b067_8 ?_
  refine r_sipush (v := 255) C dJ1_charAt_3b067_9 (by decide) ?_
  refine r_iand C dJ1_charAt_3b067_12 ?_
  refine r_i2c C dJ1_charAt_3b067_13 ?_
  rw [sby_c w hw _ h8]
  exact r_nret C dJ1_charAt_3b067_14 (sby_n w hw _ h8) rfl
noncomputable def fJ0_charAt_5068e (w : Nat) (i : Int32) : Option Int32 := if inb i (sLen.getD w 0) then some (sby w (ix i)) else none
theorem mJ0_charAt_5068e (l : Launch) {Z : Zt} (hZ : Zok 1 Z) {w : Nat} (hw : w < 14) (M : Mi) (N : Ml) (_w : Nat) (i : Int32) (b : Int32) (hb : fJ0_charAt_5068e w i = some b) : Ct 1 Z l yJ0_charAt_5068e cJ0_charAt_5068e 2 (some .char) 3 [.ref (zA Z 40 w), .int i] M N (some (.int b), M, N) := by
  unfold fJ0_charAt_5068e at hb
  by_cases hin : inb i (sLen.getD w 0)
  · rw [if_pos hin] at hb
    have h8 : ix i < 8 := Nat.lt_of_lt_of_le hin.2 (slen_8 w hw)
    refine metG (fin := finC M N) (t := some (sby w (ix i))) (by decide) (Nat.le_of_ble_eq_true rfl) (fun E _ C => ?_) hb
    refine r_aload_n C dJ0_charAt_5068e_0 0 0 rfl rfl ?_
    refine r_callV (rest := []) (st2 := [.int 1]) C (mJ0_isLatin1_aae02 (eL E) C.z hw _ _) lk_J0_492 (rvStr C hw) (by decide) rfl rfl (Nat.le_of_ble_eq_true rfl) dJ0_charAt_5068e_1 rfl ?_
    refine r_same (P := (1 : Int32) = 0) ?_
    refine r_if_eq (tgt := 16) C dJ0_charAt_5068e_4 (by decide) (fun c => absurd c (by decide)) (fun _ => ?_)
    refine r_aload_n C dJ0_charAt_5068e_7 0 0 rfl rfl ?_
    refine gs_value C hw dJ0_charAt_5068e_8 ?_
    refine r_iload_n C dJ0_charAt_5068e_11 1 1 rfl rfl ?_
    refine r_callS (rest := []) (st2 := [.int (sby w (ix i))]) C (mJ1_charAt_3b067 (eL E) C.z hw _ _ hin) lk_J0_495 (by decide) rfl rfl (Nat.le_of_ble_eq_true rfl) dJ0_charAt_5068e_12 rfl ?_
    exact r_nret C dJ0_charAt_5068e_15 (sby_n w hw _ h8) rfl
  · rw [if_neg hin] at hb
    cases hb
