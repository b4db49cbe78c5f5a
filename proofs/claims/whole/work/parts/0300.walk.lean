theorem dX0_becomes_0 : decode cX0_becomes 0 = .ok (.aload_n 0, 1) := by decide +kernel
theorem dX0_becomes_1 : decode cX0_becomes 1 = .ok (.aload_n 1, 1) := by decide +kernel
theorem dX0_becomes_2 : decode cX0_becomes 2 = .ok (.getfield 28, 3) := by decide +kernel
theorem dX0_becomes_5 : decode cX0_becomes 5 = .ok (.putfield 28, 3) := by decide +kernel
theorem dX0_becomes_8 : decode cX0_becomes 8 = .ok (.aload_n 0, 1) := by decide +kernel
theorem dX0_becomes_9 : decode cX0_becomes 9 = .ok (.aload_n 1, 1) := by decide +kernel
theorem dX0_becomes_10 : decode cX0_becomes 10 = .ok (.getfield 32, 3) := by decide +kernel
theorem dX0_becomes_13 : decode cX0_becomes 13 = .ok (.putfield 32, 3) := by decide +kernel
theorem dX0_becomes_16 : decode cX0_becomes 16 = .ok (.aload_n 0, 1) := by decide +kernel
theorem dX0_becomes_17 : decode cX0_becomes 17 = .ok (.aload_n 1, 1) := by decide +kernel
theorem dX0_becomes_18 : decode cX0_becomes 18 = .ok (.getfield 35, 3) := by decide +kernel
theorem dX0_becomes_21 : decode cX0_becomes 21 = .ok (.putfield 35, 3) := by decide +kernel
theorem dX0_becomes_24 : decode cX0_becomes 24 = .ok (.aload_n 0, 1) := by decide +kernel
theorem dX0_becomes_25 : decode cX0_becomes 25 = .ok (.aload_n 1, 1) := by decide +kernel
theorem dX0_becomes_26 : decode cX0_becomes 26 = .ok (.getfield 38, 3) := by decide +kernel
theorem dX0_becomes_29 : decode cX0_becomes 29 = .ok (.putfield 38, 3) := by decide +kernel
theorem dX0_becomes_32 : decode cX0_becomes 32 = .ok (.iconst 0, 1) := by decide +kernel
theorem dX0_becomes_33 : decode cX0_becomes 33 = .ok (.istore_n 2, 1) := by decide +kernel
theorem dX0_becomes_34 : decode cX0_becomes 34 = .ok (.iload_n 2, 1) := by decide +kernel
theorem dX0_becomes_35 : decode cX0_becomes 35 = .ok (.iconst 3, 1) := by decide +kernel
theorem dX0_becomes_36 : decode cX0_becomes 36 = .ok (.if_icmp .ge 21, 3) := by decide +kernel
theorem dX0_becomes_39 : decode cX0_becomes 39 = .ok (.aload_n 0, 1) := by decide +kernel
theorem dX0_becomes_40 : decode cX0_becomes 40 = .ok (.getfield 9, 3) := by decide +kernel
theorem dX0_becomes_43 : decode cX0_becomes 43 = .ok (.iload_n 2, 1) := by decide +kernel
theorem dX0_becomes_44 : decode cX0_becomes 44 = .ok (.aload_n 1, 1) := by decide +kernel
theorem dX0_becomes_45 : decode cX0_becomes 45 = .ok (.getfield 9, 3) := by decide +kernel
theorem dX0_becomes_48 : decode cX0_becomes 48 = .ok (.iload_n 2, 1) := by decide +kernel
theorem dX0_becomes_49 : decode cX0_becomes 49 = .ok (.iaload, 1) := by decide +kernel
theorem dX0_becomes_50 : decode cX0_becomes 50 = .ok (.iastore, 1) := by decide +kernel
theorem dX0_becomes_51 : decode cX0_becomes 51 = .ok (.iinc 2 1, 3) := by decide +kernel
theorem dX0_becomes_54 : decode cX0_becomes 54 = .ok (.goto (-20), 3) := by decide +kernel
theorem dX0_becomes_57 : decode cX0_becomes 57 = .ok (.iconst 0, 1) := by decide +kernel
theorem dX0_becomes_58 : decode cX0_becomes 58 = .ok (.istore_n 2, 1) := by decide +kernel
theorem dX0_becomes_59 : decode cX0_becomes 59 = .ok (.iload_n 2, 1) := by decide +kernel
theorem dX0_becomes_60 : decode cX0_becomes 60 = .ok (.aload_n 0, 1) := by decide +kernel
theorem dX0_becomes_61 : decode cX0_becomes 61 = .ok (.getfield 38, 3) := by decide +kernel
theorem dX0_becomes_64 : decode cX0_becomes 64 = .ok (.if_icmp .ge 57, 3) := by decide +kernel
theorem dX0_becomes_67 : decode cX0_becomes 67 = .ok (.aload_n 0, 1) := by decide +kernel
theorem dX0_becomes_68 : decode cX0_becomes 68 = .ok (.getfield 15, 3) := by decide +kernel
theorem dX0_becomes_71 : decode cX0_becomes 71 = .ok (.iload_n 2, 1) := by decide +kernel
theorem dX0_becomes_72 : decode cX0_becomes 72 = .ok (.aload_n 1, 1) := by decide +kernel
theorem dX0_becomes_73 : decode cX0_becomes 73 = .ok (.getfield 15, 3) := by decide +kernel
theorem dX0_becomes_76 : decode cX0_becomes 76 = .ok (.iload_n 2, 1) := by decide +kernel
theorem dX0_becomes_77 : decode cX0_becomes 77 = .ok (.iaload, 1) := by decide +kernel
theorem dX0_becomes_78 : decode cX0_becomes 78 = .ok (.iastore, 1) := by decide +kernel
theorem dX0_becomes_79 : decode cX0_becomes 79 = .ok (.aload_n 0, 1) := by decide +kernel
theorem dX0_becomes_80 : decode cX0_becomes 80 = .ok (.getfield 18, 3) := by decide +kernel
theorem dX0_becomes_83 : decode cX0_becomes 83 = .ok (.iload_n 2, 1) := by decide +kernel
theorem dX0_becomes_84 : decode cX0_becomes 84 = .ok (.aload_n 1, 1) := by decide +kernel
theorem dX0_becomes_85 : decode cX0_becomes 85 = .ok (.getfield 18, 3) := by decide +kernel
theorem dX0_becomes_88 : decode cX0_becomes 88 = .ok (.iload_n 2, 1) := by decide +kernel
theorem dX0_becomes_89 : decode cX0_becomes 89 = .ok (.iaload, 1) := by decide +kernel
theorem dX0_becomes_90 : decode cX0_becomes 90 = .ok (.iastore, 1) := by decide +kernel
theorem dX0_becomes_91 : decode cX0_becomes 91 = .ok (.aload_n 0, 1) := by decide +kernel
theorem dX0_becomes_92 : decode cX0_becomes 92 = .ok (.getfield 21, 3) := by decide +kernel
theorem dX0_becomes_95 : decode cX0_becomes 95 = .ok (.iload_n 2, 1) := by decide +kernel
theorem dX0_becomes_96 : decode cX0_becomes 96 = .ok (.aload_n 1, 1) := by decide +kernel
theorem dX0_becomes_97 : decode cX0_becomes 97 = .ok (.getfield 21, 3) := by decide +kernel
theorem dX0_becomes_100 : decode cX0_becomes 100 = .ok (.iload_n 2, 1) := by decide +kernel
theorem dX0_becomes_101 : decode cX0_becomes 101 = .ok (.iaload, 1) := by decide +kernel
theorem dX0_becomes_102 : decode cX0_becomes 102 = .ok (.iastore, 1) := by decide +kernel
theorem dX0_becomes_103 : decode cX0_becomes 103 = .ok (.aload_n 0, 1) := by decide +kernel
theorem dX0_becomes_104 : decode cX0_becomes 104 = .ok (.getfield 24, 3) := by decide +kernel
theorem dX0_becomes_107 : decode cX0_becomes 107 = .ok (.iload_n 2, 1) := by decide +kernel
theorem dX0_becomes_108 : decode cX0_becomes 108 = .ok (.aload_n 1, 1) := by decide +kernel
theorem dX0_becomes_109 : decode cX0_becomes 109 = .ok (.getfield 24, 3) := by decide +kernel
theorem dX0_becomes_112 : decode cX0_becomes 112 = .ok (.iload_n 2, 1) := by decide +kernel
theorem dX0_becomes_113 : decode cX0_becomes 113 = .ok (.baload, 1) := by decide +kernel
theorem dX0_becomes_114 : decode cX0_becomes 114 = .ok (.bastore, 1) := by decide +kernel
theorem dX0_becomes_115 : decode cX0_becomes 115 = .ok (.iinc 2 1, 3) := by decide +kernel
theorem dX0_becomes_118 : decode cX0_becomes 118 = .ok (.goto (-59), 3) := by decide +kernel
theorem dX0_becomes_121 : decode cX0_becomes 121 = .ok (.return_, 1) := by decide +kernel
def finX0_becomes (M0 : Mi) (N : Ml) (j : Nat) : (Nat → Int32) → Option Value × Mi × Ml := fun b => (none, sR M0 j (b), N)
noncomputable def fX0_becomes_59 (ρ : Nat → Int32)  : Nat → (Nat → Int32) → Int32 → Option ((Nat → Int32))
  | 0 => fun _ _ => none
  | n + 1 => fun σ x2 => (if (σ 1) ≤ x2 then (some σ) else (if inb x2 8 then ((fX0_becomes_59 ρ n) (upd (upd (upd (upd σ (7 + 4 * ix x2) (ρ (7 + 4 * ix x2))) (8 + 4 * ix x2) (ρ (8 + 4 * ix x2))) (9 + 4 * ix x2) (ρ (9 + 4 * ix x2))) (10 + 4 * ix x2) (zn (ρ (10 + 4 * ix x2)))) (x2 + 1)) else none))
theorem bX0_becomes_59 {Z : Zt} {E : Ec} {M0 : Mi} {N : Ml} {j : Nat} {j2 : Nat} {ρ : Nat → Int32} (C : Ok 1 Z E cX0_becomes 3 RX0 none 0) (hj : j < 4) (hj2 : j2 < 4) (hne : j2 ≠ j) (hρ : M0 j2 = ρ)   : ∀ (n : Nat) (σ : Nat → Int32) (x2 : Int32), GT Z E 3 (finX0_becomes M0 N j) 59 [(0, .ref (zA Z j 0)), (1, .ref (zA Z j2 0)), (2, .int x2)] [] (sR M0 j σ) N (fX0_becomes_59 ρ n σ x2) := by
  intro n
  induction n with
  | zero => intro σ x2; exact r_none
  | succ n ih =>
    intro σ x2
    rw [fX0_becomes_59]
    refine r_iload_n C dX0_becomes_59 2 2 rfl rfl ?_
    refine r_aload_n C dX0_becomes_60 0 0 rfl rfl ?_
    refine gf_X0_38 (v := (σ 1)) C hj dX0_becomes_61 (sR_at _ _ _ _) ?_
    refine r_ic_ge (tgt := 121) C dX0_becomes_64 (by decide) (fun c2 => ?_) (fun c2 => ?_)
    · exact r_vret C dX0_becomes_121 rfl
    · refine r_aload_n C dX0_becomes_67 0 0 rfl rfl ?_
      refine gf_X0_15 C hj dX0_becomes_68 ?_
      refine r_iload_n C dX0_becomes_71 2 2 rfl rfl ?_
      refine r_aload_n C dX0_becomes_72 1 1 rfl rfl ?_
      refine gf_X0_15 C hj2 dX0_becomes_73 ?_
      refine r_iload_n C dX0_becomes_76 2 2 rfl rfl ?_
      refine r_guard (fun h3 => ?_)
      refine ald_I2 (v := (ρ (7 + 4 * ix x2))) C hj2 h3 ((sR_off _ _ _ hne).trans (congrFun hρ _)) dX0_becomes_77 ?_
      refine ast_I2 (M' := (sR M0 j (upd σ (7 + 4 * ix x2) (ρ (7 + 4 * ix x2))))) C hj h3 (wM_sR _ _ _ _ _) dX0_becomes_78 ?_
      refine r_aload_n C dX0_becomes_79 0 0 rfl rfl ?_
      refine gf_X0_18 C hj dX0_becomes_80 ?_
      refine r_iload_n C dX0_becomes_83 2 2 rfl rfl ?_
      refine r_aload_n C dX0_becomes_84 1 1 rfl rfl ?_
      refine gf_X0_18 C hj2 dX0_becomes_85 ?_
      refine r_iload_n C dX0_becomes_88 2 2 rfl rfl ?_
      refine ald_I3 (v := (ρ (8 + 4 * ix x2))) C hj2 h3 ((sR_off _ _ _ hne).trans (congrFun hρ _)) dX0_becomes_89 ?_
      refine ast_I3 (M' := (sR M0 j (upd (upd σ (7 + 4 * ix x2) (ρ (7 + 4 * ix x2))) (8 + 4 * ix x2) (ρ (8 + 4 * ix x2))))) C hj h3 (wM_sR _ _ _ _ _) dX0_becomes_90 ?_
      refine r_aload_n C dX0_becomes_91 0 0 rfl rfl ?_
      refine gf_X0_21 C hj dX0_becomes_92 ?_
      refine r_iload_n C dX0_becomes_95 2 2 rfl rfl ?_
      refine r_aload_n C dX0_becomes_96 1 1 rfl rfl ?_
      refine gf_X0_21 C hj2 dX0_becomes_97 ?_
      refine r_iload_n C dX0_becomes_100 2 2 rfl rfl ?_
      refine ald_I4 (v := (ρ (9 + 4 * ix x2))) C hj2 h3 ((sR_off _ _ _ hne).trans (congrFun hρ _)) dX0_becomes_101 ?_
      refine ast_I4 (M' := (sR M0 j (upd (upd (upd σ (7 + 4 * ix x2) (ρ (7 + 4 * ix x2))) (8 + 4 * ix x2) (ρ (8 + 4 * ix x2))) (9 + 4 * ix x2) (ρ (9 + 4 * ix x2))))) C hj h3 (wM_sR _ _ _ _ _) dX0_becomes_102 ?_
      refine r_aload_n C dX0_becomes_103 0 0 rfl rfl ?_
      refine gf_X0_24 C hj dX0_becomes_104 ?_
      refine r_iload_n C dX0_becomes_107 2 2 rfl rfl ?_
      refine r_aload_n C dX0_becomes_108 1 1 rfl rfl ?_
      refine gf_X0_24 C hj2 dX0_becomes_109 ?_
      refine r_iload_n C dX0_becomes_112 2 2 rfl rfl ?_
      refine ald_I5 (v := (ρ (10 + 4 * ix x2))) C hj2 h3 ((sR_off _ _ _ hne).trans (congrFun hρ _)) dX0_becomes_113 ?_
      refine ast_I5 (M' := (sR M0 j (upd (upd (upd (upd σ (7 + 4 * ix x2) (ρ (7 + 4 * ix x2))) (8 + 4 * ix x2) (ρ (8 + 4 * ix x2))) (9 + 4 * ix x2) (ρ (9 + 4 * ix x2))) (10 + 4 * ix x2) (zn (ρ (10 + 4 * ix x2)))))) C hj h3 (wM_sR _ _ _ _ _) dX0_becomes_114 ?_
      refine r_iinc (v := (x2 + 1)) (lv' := [(2, .int (x2 + 1)), (0, .ref (zA Z j 0)), (1, .ref (zA Z j2 0))]) C dX0_becomes_115 2 rfl rfl (by decide) rfl ?_
      refine r_goto (tgt := 59) C dX0_becomes_118 (by decide) ?_
      refine r_lv [1, 2, 0] (lv' := [(0, .ref (zA Z j 0)), (1, .ref (zA Z j2 0)), (2, .int (x2 + 1))]) rfl ?_
      exact ih (upd (upd (upd (upd σ (7 + 4 * ix x2) (ρ (7 + 4 * ix x2))) (8 + 4 * ix x2) (ρ (8 + 4 * ix x2))) (9 + 4 * ix x2) (ρ (9 + 4 * ix x2))) (10 + 4 * ix x2) (zn (ρ (10 + 4 * ix x2)))) (x2 + 1)
noncomputable def fX0_becomes_34 (ρ : Nat → Int32)  : Nat → (Nat → Int32) → Int32 → Option ((Nat → Int32))
  | 0 => fun _ _ => none
  | n + 1 => fun σ x2 => (if 3 ≤ x2 then (fX0_becomes_59 ρ fu σ 0) else (if inb x2 3 then ((fX0_becomes_34 ρ n) (upd σ (3 + ix x2) (ρ (3 + ix x2))) (x2 + 1)) else none))
theorem bX0_becomes_34 {Z : Zt} {E : Ec} {M0 : Mi} {N : Ml} {j : Nat} {j2 : Nat} {ρ : Nat → Int32} (C : Ok 1 Z E cX0_becomes 3 RX0 none 0) (hj : j < 4) (hj2 : j2 < 4) (hne : j2 ≠ j) (hρ : M0 j2 = ρ)   : ∀ (n : Nat) (σ : Nat → Int32) (x2 : Int32), GT Z E 3 (finX0_becomes M0 N j) 34 [(0, .ref (zA Z j 0)), (1, .ref (zA Z j2 0)), (2, .int x2)] [] (sR M0 j σ) N (fX0_becomes_34 ρ n σ x2) := by
  intro n
  induction n with
  | zero => intro σ x2; exact r_none
  | succ n ih =>
    intro σ x2
    rw [fX0_becomes_34]
    refine r_iload_n C dX0_becomes_34 2 2 rfl rfl ?_
    refine r_iconst (v := 3) C dX0_becomes_35 (by decide) ?_
    refine r_ic_ge (tgt := 57) C dX0_becomes_36 (by decide) (fun c1 => ?_) (fun c1 => ?_)
    · refine r_iconst (v := 0) C dX0_becomes_57 (by decide) ?_
      refine r_istore_n (lv' := [(2, .int 0), (0, .ref (zA Z j 0)), (1, .ref (zA Z j2 0))]) C dX0_becomes_58 2 rfl (by decide) rfl ?_
      refine r_lv [1, 2, 0] (lv' := [(0, .ref (zA Z j 0)), (1, .ref (zA Z j2 0)), (2, .int 0)]) rfl ?_
      exact bX0_becomes_59 C hj hj2 hne hρ fu σ 0
    · refine r_aload_n C dX0_becomes_39 0 0 rfl rfl ?_
      refine gf_X0_9 C hj dX0_becomes_40 ?_
      refine r_iload_n C dX0_becomes_43 2 2 rfl rfl ?_
      refine r_aload_n C dX0_becomes_44 1 1 rfl rfl ?_
      refine gf_X0_9 C hj2 dX0_becomes_45 ?_
      refine r_iload_n C dX0_becomes_48 2 2 rfl rfl ?_
      refine r_guard (fun h4 => ?_)
      refine ald_I1 (v := (ρ (3 + ix x2))) C hj2 h4 ((sR_off _ _ _ hne).trans (congrFun hρ _)) dX0_becomes_49 ?_
      refine ast_I1 (M' := (sR M0 j (upd σ (3 + ix x2) (ρ (3 + ix x2))))) C hj h4 (wM_sR _ _ _ _ _) dX0_becomes_50 ?_
      refine r_iinc (v := (x2 + 1)) (lv' := [(2, .int (x2 + 1)), (0, .ref (zA Z j 0)), (1, .ref (zA Z j2 0))]) C dX0_becomes_51 2 rfl rfl (by decide) rfl ?_
      refine r_goto (tgt := 34) C dX0_becomes_54 (by decide) ?_
      refine r_lv [1, 2, 0] (lv' := [(0, .ref (zA Z j 0)), (1, .ref (zA Z j2 0)), (2, .int (x2 + 1))]) rfl ?_
      exact ih (upd σ (3 + ix x2) (ρ (3 + ix x2))) (x2 + 1)
noncomputable def fX0_becomes (ρ : Nat → Int32)  (σ : Nat → Int32) : Option ((Nat → Int32)) := (fX0_becomes_34 ρ fu (upd (upd (upd (upd σ 2 (ρ 2)) 6 (ρ 6)) 0 (ρ 0)) 1 (ρ 1)) 0)
theorem bX0_becomes {Z : Zt} {E : Ec} {M0 : Mi} {N : Ml} {j : Nat} {j2 : Nat} {ρ : Nat → Int32} (C : Ok 1 Z E cX0_becomes 3 RX0 none 0) (hj : j < 4) (hj2 : j2 < 4) (hne : j2 ≠ j) (hρ : M0 j2 = ρ)   (σ : Nat → Int32)  : GT Z E 3 (finX0_becomes M0 N j) 0 [(0, .ref (zA Z j 0)), (1, .ref (zA Z j2 0))] [] (sR M0 j σ) N (fX0_becomes ρ σ) := by
  unfold fX0_becomes
  refine r_aload_n C dX0_becomes_0 0 0 rfl rfl ?_
  refine r_aload_n C dX0_becomes_1 1 1 rfl rfl ?_
  refine gf_X0_28 (v := (ρ 2)) C hj2 dX0_becomes_2 ((sR_off _ _ _ hne).trans (congrFun hρ _)) ?_
  refine pf_X0_28 (M' := (sR M0 j (upd σ 2 (ρ 2)))) C hj dX0_becomes_5 (wM_sR _ _ _ _ _) ?_
  refine r_aload_n C dX0_becomes_8 0 0 rfl rfl ?_
  refine r_aload_n C dX0_becomes_9 1 1 rfl rfl ?_
  refine gf_X0_32 (v := (ρ 6)) C hj2 dX0_becomes_10 ((sR_off _ _ _ hne).trans (congrFun hρ _)) ?_
  refine pf_X0_32 (M' := (sR M0 j (upd (upd σ 2 (ρ 2)) 6 (ρ 6)))) C hj dX0_becomes_13 (wM_sR _ _ _ _ _) ?_
  refine r_aload_n C dX0_becomes_16 0 0 rfl rfl ?_
  refine r_aload_n C dX0_becomes_17 1 1 rfl rfl ?_
  refine gf_X0_35 (v := (ρ 0)) C hj2 dX0_becomes_18 ((sR_off _ _ _ hne).trans (congrFun hρ _)) ?_
  refine pf_X0_35 (M' := (sR M0 j (upd (upd (upd σ 2 (ρ 2)) 6 (ρ 6)) 0 (ρ 0)))) C hj dX0_becomes_21 (wM_sR _ _ _ _ _) ?_
  refine r_aload_n C dX0_becomes_24 0 0 rfl rfl ?_
  refine r_aload_n C dX0_becomes_25 1 1 rfl rfl ?_
  refine gf_X0_38 (v := (ρ 1)) C hj2 dX0_becomes_26 ((sR_off _ _ _ hne).trans (congrFun hρ _)) ?_
  refine pf_X0_38 (M' := (sR M0 j (upd (upd (upd (upd σ 2 (ρ 2)) 6 (ρ 6)) 0 (ρ 0)) 1 (ρ 1)))) C hj dX0_becomes_29 (wM_sR _ _ _ _ _) ?_
  refine r_iconst (v := 0) C dX0_becomes_32 (by decide) ?_
  refine r_istore_n (lv' := [(2, .int 0), (0, .ref (zA Z j 0)), (1, .ref (zA Z j2 0))]) C dX0_becomes_33 2 rfl (by decide) rfl ?_
  refine r_lv [1, 2, 0] (lv' := [(0, .ref (zA Z j 0)), (1, .ref (zA Z j2 0)), (2, .int 0)]) rfl ?_
  exact bX0_becomes_34 C hj hj2 hne hρ fu (upd (upd (upd (upd σ 2 (ρ 2)) 6 (ρ 6)) 0 (ρ 0)) 1 (ρ 1)) 0
theorem mX0_becomes (l : Launch) {Z : Zt} (hZ : Zok 1 Z) {j : Nat} (hj : j < 4) {j2 : Nat} (hj2 : j2 < 4) (hne : j2 ≠ j) (M0 : Mi) (N : Ml) (σ : Nat → Int32) (b : (Nat → Int32)) (hb : fX0_becomes (M0 j2) σ = some b) : Ct 1 Z l yX0_becomes cX0_becomes 3 none 0 [.ref (zA Z j 0), .ref (zA Z j2 0)] (sR M0 j σ) N (none, sR M0 j (b), N) :=
  metG (fin := (finX0_becomes M0 N j)) (by decide) (Nat.le_of_ble_eq_true rfl) (fun E _ C => bX0_becomes C hj hj2 hne rfl σ) hb
theorem dX4_isBelow_0 : decode cX4_isBelow 0 = .ok (.iload_n 0, 1) := by decide +kernel
theorem dX4_isBelow_1 : decode cX4_isBelow 1 = .ok (.ifCond .lt 12, 3) := by decide +kernel
theorem dX4_isBelow_4 : decode cX4_isBelow 4 = .ok (.iload_n 0, 1) := by decide +kernel
theorem dX4_isBelow_5 : decode cX4_isBelow 5 = .ok (.iload_n 1, 1) := by decide +kernel
theorem dX4_isBelow_6 : decode cX4_isBelow 6 = .ok (.if_icmp .ge 7, 3) := by decide +kernel
theorem dX4_isBelow_9 : decode cX4_isBelow 9 = .ok (.iconst 1, 1) := by decide +kernel
theorem dX4_isBelow_10 : decode cX4_isBelow 10 = .ok (.goto 4, 3) := by decide +kernel
theorem dX4_isBelow_13 : decode cX4_isBelow 13 = .ok (.iconst 0, 1) := by decide +kernel
theorem dX4_isBelow_14 : decode cX4_isBelow 14 = .ok (.ireturn, 1) := by decide +kernel
def finX4_isBelow (M : Mi) (N : Ml) : Int32 → Option Value × Mi × Ml := fun b => (some (Value.int b), M, N)
noncomputable def fX4_isBelow   (x0 : Int32) (x1 : Int32) : Int32 := (if x0 < 0 then 0 else (if x1 ≤ x0 then 0 else 1))
theorem bX4_isBelow {Z : Zt} {E : Ec} {M : Mi} {N : Ml} (C : Ok 1 Z E cX4_isBelow 2 RX4 (some .boolean) 0)    (x0 : Int32) (x1 : Int32)  : GT Z E 2 (finX4_isBelow M N) 0 [(0, .int x0), (1, .int x1)] [] M N (some (fX4_isBelow x0 x1)) := by
  unfold fX4_isBelow
  refine r_iload_n C dX4_isBelow_0 0 0 rfl rfl ?_
  refine r_st ?_
  refine r_if_lt (tgt := 13) C dX4_isBelow_1 (by decide) (fun c1 => ?_) (fun c1 => ?_)
  · refine r_iconst (v := 0) C dX4_isBelow_13 (by decide) ?_
    exact r_zret C dX4_isBelow_14 (Or.inl rfl) rfl
  · refine r_iload_n C dX4_isBelow_4 0 0 rfl rfl ?_
    refine r_iload_n C dX4_isBelow_5 1 1 rfl rfl ?_
    refine r_st ?_
    refine r_ic_ge (tgt := 13) C dX4_isBelow_6 (by decide) (fun c2 => ?_) (fun c2 => ?_)
    · refine r_iconst (v := 0) C dX4_isBelow_13 (by decide) ?_
      exact r_zret C dX4_isBelow_14 (Or.inl rfl) rfl
    · refine r_iconst (v := 1) C dX4_isBelow_9 (by decide) ?_
      refine r_goto (tgt := 14) C dX4_isBelow_10 (by decide) ?_
      exact r_zret C dX4_isBelow_14 (Or.inr rfl) rfl
theorem zbX4_isBelow (x0 : Int32) (x1 : Int32) : fX4_isBelow x0 x1 = 0 ∨ fX4_isBelow x0 x1 = 1 := by
  unfold fX4_isBelow; (repeat' split) <;> first | exact Or.inl rfl | exact Or.inr rfl
theorem mX4_isBelow (l : Launch) {Z : Zt} (hZ : Zok 1 Z) (M : Mi) (N : Ml) (x0 : Int32) (x1 : Int32) : Ct 1 Z l yX4_isBelow cX4_isBelow 2 (some .boolean) 0 [.int x0, .int x1] M N (some (Value.int (fX4_isBelow x0 x1)), M, N) :=
  metG (fin := (finX4_isBelow M N)) (by decide) (Nat.le_of_ble_eq_true rfl) (fun E _ C => bX4_isBelow C x0 x1) rfl
theorem dX0_has_0 : decode cX0_has 0 = .ok (.iload_n 1, 1) := by decide +kernel
theorem dX0_has_1 : decode cX0_has 1 = .ok (.aload_n 0, 1) := by decide +kernel
theorem dX0_has_2 : decode cX0_has 2 = .ok (.getfield 38, 3) := by decide +kernel
theorem dX0_has_5 : decode cX0_has 5 = .ok (.invokestatic 41, 3) := by decide +kernel
theorem dX0_has_8 : decode cX0_has 8 = .ok (.ireturn, 1) := by decide +kernel
def finX0_has (M0 : Mi) (σ : Nat → Int32) (N : Ml) (j : Nat) : Int32 → Option Value × Mi × Ml := fun b => (some (Value.int b), sR M0 j σ, N)
noncomputable def fX0_has (σ : Nat → Int32)  (x1 : Int32) : Int32 := (fX4_isBelow x1 (σ 1))
theorem bX0_has {Z : Zt} {E : Ec} {M0 : Mi} {σ : Nat → Int32} {N : Ml} {j : Nat} (C : Ok 1 Z E cX0_has 2 RX0 (some .boolean) 1) (hj : j < 4)   (x1 : Int32)  : GT Z E 2 (finX0_has M0 σ N j) 0 [(0, .ref (zA Z j 0)), (1, .int x1)] [] (sR M0 j σ) N (some (fX0_has σ x1)) := by
  unfold fX0_has
  refine r_iload_n C dX0_has_0 1 1 rfl rfl ?_
  refine r_aload_n C dX0_has_1 0 0 rfl rfl ?_
  refine gf_X0_38 (v := (σ 1)) C hj dX0_has_2 (sR_at _ _ _ _) ?_
  refine r_callSN (n := 2) (rest := []) (st2 := [.int (fX4_isBelow x1 (σ 1))]) C (mX4_isBelow (eL E) C.z _ _ x1 (σ 1)) 4 rfl wd_258 wd_80 wd_257 ⟨by decide, by decide, by decide +kernel⟩ (by decide) (by decide) rfl rfl (Nat.le_of_ble_eq_true rfl) dX0_has_5 rfl ?_
  exact r_zret C dX0_has_8 (zbX4_isBelow  x1 (σ 1)) rfl
theorem zbX0_has (σ : Nat → Int32) (x1 : Int32) : fX0_has σ x1 = 0 ∨ fX0_has σ x1 = 1 := by
  unfold fX0_has; (repeat' split) <;> first | exact Or.inl rfl | exact Or.inr rfl | exact zbX4_isBelow _ _
theorem mX0_has (l : Launch) {Z : Zt} (hZ : Zok 1 Z) {j : Nat} (hj : j < 4) (M0 : Mi) (N : Ml) (σ : Nat → Int32) (x1 : Int32) : Ct 1 Z l yX0_has cX0_has 2 (some .boolean) 1 [.ref (zA Z j 0), .int x1] (sR M0 j σ) N (some (Value.int (fX0_has σ x1)), sR M0 j σ, N) :=
  metG (fin := (finX0_has M0 σ N j)) (by decide) (Nat.le_of_ble_eq_true rfl) (fun E _ C => bX0_has C hj x1) rfl
theorem dX0_isFull_0 : decode cX0_isFull 0 = .ok (.aload_n 0, 1) := by decide +kernel
theorem dX0_isFull_1 : decode cX0_isFull 1 = .ok (.getfield 38, 3) := by decide +kernel
theorem dX0_isFull_4 : decode cX0_isFull 4 = .ok (.bipush 8, 2) := by decide +kernel
theorem dX0_isFull_6 : decode cX0_isFull 6 = .ok (.if_icmp .lt 7, 3) := by decide +kernel
theorem dX0_isFull_9 : decode cX0_isFull 9 = .ok (.iconst 1, 1) := by decide +kernel
theorem dX0_isFull_10 : decode cX0_isFull 10 = .ok (.goto 4, 3) := by decide +kernel
theorem dX0_isFull_13 : decode cX0_isFull 13 = .ok (.iconst 0, 1) := by decide +kernel
theorem dX0_isFull_14 : decode cX0_isFull 14 = .ok (.ireturn, 1) := by decide +kernel
def finX0_isFull (M0 : Mi) (σ : Nat → Int32) (N : Ml) (j : Nat) : Int32 → Option Value × Mi × Ml := fun b => (some (Value.int b), sR M0 j σ, N)
noncomputable def fX0_isFull (σ : Nat → Int32)   : Int32 := (if (σ 1) < 8 then 0 else 1)
theorem bX0_isFull {Z : Zt} {E : Ec} {M0 : Mi} {σ : Nat → Int32} {N : Ml} {j : Nat} (C : Ok 1 Z E cX0_isFull 1 RX0 (some .boolean) 0) (hj : j < 4)     : GT Z E 1 (finX0_isFull M0 σ N j) 0 [(0, .ref (zA Z j 0))] [] (sR M0 j σ) N (some (fX0_isFull σ )) := by
  unfold fX0_isFull
  refine r_aload_n C dX0_isFull_0 0 0 rfl rfl ?_
  refine gf_X0_38 (v := (σ 1)) C hj dX0_isFull_1 (sR_at _ _ _ _) ?_
  refine r_bipush (v := 8) C dX0_isFull_4 (by decide) ?_
  refine r_st ?_
  refine r_ic_lt (tgt := 13) C dX0_isFull_6 (by decide) (fun c1 => ?_) (fun c1 => ?_)
  · refine r_iconst (v := 0) C dX0_isFull_13 (by decide) ?_
    exact r_zret C dX0_isFull_14 (Or.inl rfl) rfl
  · refine r_iconst (v := 1) C dX0_isFull_9 (by decide) ?_
    refine r_goto (tgt := 14) C dX0_isFull_10 (by decide) ?_
    exact r_zret C dX0_isFull_14 (Or.inr rfl) rfl
theorem zbX0_isFull (σ : Nat → Int32) : fX0_isFull σ = 0 ∨ fX0_isFull σ = 1 := by
  unfold fX0_isFull; (repeat' split) <;> first | exact Or.inl rfl | exact Or.inr rfl
theorem mX0_isFull (l : Launch) {Z : Zt} (hZ : Zok 1 Z) {j : Nat} (hj : j < 4) (M0 : Mi) (N : Ml) (σ : Nat → Int32) : Ct 1 Z l yX0_isFull cX0_isFull 1 (some .boolean) 0 [.ref (zA Z j 0)] (sR M0 j σ) N (some (Value.int (fX0_isFull σ)), sR M0 j σ, N) :=
  metG (fin := (finX0_isFull M0 σ N j)) (by decide) (Nat.le_of_ble_eq_true rfl) (fun E _ C => bX0_isFull C hj) rfl
theorem dX0_comes_0 : decode cX0_comes 0 = .ok (.aload_n 0, 1) := by decide +kernel
theorem dX0_comes_1 : decode cX0_comes 1 = .ok (.getfield 38, 3) := by decide +kernel
theorem dX0_comes_4 : decode cX0_comes 4 = .ok (.istore 4, 2) := by decide +kernel
theorem dX0_comes_6 : decode cX0_comes 6 = .ok (.aload_n 0, 1) := by decide +kernel
theorem dX0_comes_7 : decode cX0_comes 7 = .ok (.getfield 15, 3) := by decide +kernel
theorem dX0_comes_10 : decode cX0_comes 10 = .ok (.iload 4, 2) := by decide +kernel
theorem dX0_comes_12 : decode cX0_comes 12 = .ok (.iload_n 1, 1) := by decide +kernel
theorem dX0_comes_13 : decode cX0_comes 13 = .ok (.iastore, 1) := by decide +kernel
theorem dX0_comes_14 : decode cX0_comes 14 = .ok (.aload_n 0, 1) := by decide +kernel
theorem dX0_comes_15 : decode cX0_comes 15 = .ok (.getfield 18, 3) := by decide +kernel
theorem dX0_comes_18 : decode cX0_comes 18 = .ok (.iload 4, 2) := by decide +kernel
theorem dX0_comes_20 : decode cX0_comes 20 = .ok (.iload_n 2, 1) := by decide +kernel
theorem dX0_comes_21 : decode cX0_comes 21 = .ok (.iastore, 1) := by decide +kernel
theorem dX0_comes_22 : decode cX0_comes 22 = .ok (.aload_n 0, 1) := by decide +kernel
theorem dX0_comes_23 : decode cX0_comes 23 = .ok (.getfield 21, 3) := by decide +kernel
theorem dX0_comes_26 : decode cX0_comes 26 = .ok (.iload 4, 2) := by decide +kernel
theorem dX0_comes_28 : decode cX0_comes 28 = .ok (.iload_n 3, 1) := by decide +kernel
theorem dX0_comes_29 : decode cX0_comes 29 = .ok (.iastore, 1) := by decide +kernel
theorem dX0_comes_30 : decode cX0_comes 30 = .ok (.aload_n 0, 1) := by decide +kernel
theorem dX0_comes_31 : decode cX0_comes 31 = .ok (.getfield 24, 3) := by decide +kernel
theorem dX0_comes_34 : decode cX0_comes 34 = .ok (.iload 4, 2) := by decide +kernel
theorem dX0_comes_36 : decode cX0_comes 36 = .ok (.iconst 0, 1) := by decide +kernel
theorem dX0_comes_37 : decode cX0_comes 37 = .ok (.bastore, 1) := by decide +kernel
theorem dX0_comes_38 : decode cX0_comes 38 = .ok (.aload_n 0, 1) := by decide +kernel
theorem dX0_comes_39 : decode cX0_comes 39 = .ok (.dup, 1) := by decide +kernel
theorem dX0_comes_40 : decode cX0_comes 40 = .ok (.getfield 38, 3) := by decide +kernel
theorem dX0_comes_43 : decode cX0_comes 43 = .ok (.iconst 1, 1) := by decide +kernel
theorem dX0_comes_44 : decode cX0_comes 44 = .ok (.iadd, 1) := by decide +kernel
theorem dX0_comes_45 : decode cX0_comes 45 = .ok (.putfield 38, 3) := by decide +kernel
theorem dX0_comes_48 : decode cX0_comes 48 = .ok (.iload 4, 2) := by decide +kernel
theorem dX0_comes_50 : decode cX0_comes 50 = .ok (.ireturn, 1) := by decide +kernel
def finX0_comes (M0 : Mi) (N : Ml) (j : Nat) : Int32 × (Nat → Int32) → Option Value × Mi × Ml := fun b => (some (Value.int b.1), sR M0 j (b.2), N)
noncomputable def fX0_comes   (σ : Nat → Int32) (x1 : Int32) (x2 : Int32) (x3 : Int32) : Option (Int32 × (Nat → Int32)) := (if inb (σ 1) 8 then (some ((σ 1), (upd (upd (upd (upd (upd σ (7 + 4 * ix (σ 1)) x1) (8 + 4 * ix (σ 1)) x2) (9 + 4 * ix (σ 1)) x3) (10 + 4 * ix (σ 1)) (zn 0)) 1 (((upd (upd (upd (upd σ (7 + 4 * ix (σ 1)) x1) (8 + 4 * ix (σ 1)) x2) (9 + 4 * ix (σ 1)) x3) (10 + 4 * ix (σ 1)) (zn 0)) 1) + 1)))) else none)
theorem bX0_comes {Z : Zt} {E : Ec} {M0 : Mi} {N : Ml} {j : Nat} (C : Ok 1 Z E cX0_comes 5 RX0 (some .int) 0) (hj : j < 4)   (σ : Nat → Int32) (x1 : Int32) (x2 : Int32) (x3 : Int32)  : GT Z E 5 (finX0_comes M0 N j) 0 [(0, .ref (zA Z j 0)), (1, .int x1), (2, .int x2), (3, .int x3)] [] (sR M0 j σ) N (fX0_comes σ x1 x2 x3) := by
  unfold fX0_comes
  refine r_aload_n C dX0_comes_0 0 0 rfl rfl ?_
  refine gf_X0_38 (v := (σ 1)) C hj dX0_comes_1 (sR_at _ _ _ _) ?_
  refine r_istore (lv' := [(4, .int (σ 1)), (0, .ref (zA Z j 0)), (1, .int x1), (2, .int x2), (3, .int x3)]) C dX0_comes_4 (by decide) rfl ?_
  refine r_aload_n C dX0_comes_6 0 1 rfl rfl ?_
  refine gf_X0_15 C hj dX0_comes_7 ?_
  refine r_iload C dX0_comes_10 0 rfl ?_
  refine r_iload_n C dX0_comes_12 1 2 rfl rfl ?_
  refine r_guard (fun h1 => ?_)
  refine ast_I2 (M' := (sR M0 j (upd σ (7 + 4 * ix (σ 1)) x1))) C hj h1 (wM_sR _ _ _ _ _) dX0_comes_13 ?_
  refine r_aload_n C dX0_comes_14 0 1 rfl rfl ?_
  refine gf_X0_18 C hj dX0_comes_15 ?_
  refine r_iload C dX0_comes_18 0 rfl ?_
  refine r_iload_n C dX0_comes_20 2 3 rfl rfl ?_
  refine ast_I3 (M' := (sR M0 j (upd (upd σ (7 + 4 * ix (σ 1)) x1) (8 + 4 * ix (σ 1)) x2))) C hj h1 (wM_sR _ _ _ _ _) dX0_comes_21 ?_
  refine r_aload_n C dX0_comes_22 0 1 rfl rfl ?_
  refine gf_X0_21 C hj dX0_comes_23 ?_
  refine r_iload C dX0_comes_26 0 rfl ?_
  refine r_iload_n C dX0_comes_28 3 4 rfl rfl ?_
  refine ast_I4 (M' := (sR M0 j (upd (upd (upd σ (7 + 4 * ix (σ 1)) x1) (8 + 4 * ix (σ 1)) x2) (9 + 4 * ix (σ 1)) x3))) C hj h1 (wM_sR _ _ _ _ _) dX0_comes_29 ?_
  refine r_aload_n C dX0_comes_30 0 1 rfl rfl ?_
  refine gf_X0_24 C hj dX0_comes_31 ?_
  refine r_iload C dX0_comes_34 0 rfl ?_
  refine r_iconst (v := 0) C dX0_comes_36 (by decide) ?_
  refine ast_I5 (M' := (sR M0 j (upd (upd (upd (upd σ (7 + 4 * ix (σ 1)) x1) (8 + 4 * ix (σ 1)) x2) (9 + 4 * ix (σ 1)) x3) (10 + 4 * ix (σ 1)) (zn 0)))) C hj h1 (wM_sR _ _ _ _ _) dX0_comes_37 ?_
  refine r_aload_n C dX0_comes_38 0 1 rfl rfl ?_
  refine r_dup C dX0_comes_39 rfl ?_
  refine gf_X0_38 (v := ((upd (upd (upd (upd σ (7 + 4 * ix (σ 1)) x1) (8 + 4 * ix (σ 1)) x2) (9 + 4 * ix (σ 1)) x3) (10 + 4 * ix (σ 1)) (zn 0)) 1)) C hj dX0_comes_40 (sR_at _ _ _ _) ?_
  refine r_iconst (v := 1) C dX0_comes_43 (by decide) ?_
  refine r_iadd C dX0_comes_44 ?_
  refine pf_X0_38 (M' := (sR M0 j (upd (upd (upd (upd (upd σ (7 + 4 * ix (σ 1)) x1) (8 + 4 * ix (σ 1)) x2) (9 + 4 * ix (σ 1)) x3) (10 + 4 * ix (σ 1)) (zn 0)) 1 (((upd (upd (upd (upd σ (7 + 4 * ix (σ 1)) x1) (8 + 4 * ix (σ 1)) x2) (9 + 4 * ix (σ 1)) x3) (10 + 4 * ix (σ 1)) (zn 0)) 1) + 1)))) C hj dX0_comes_45 (wM_sR _ _ _ _ _) ?_
  refine r_iload C dX0_comes_48 0 rfl ?_
  exact r_iret C dX0_comes_50 rfl
theorem mX0_comes (l : Launch) {Z : Zt} (hZ : Zok 1 Z) {j : Nat} (hj : j < 4) (M0 : Mi) (N : Ml) (σ : Nat → Int32) (x1 : Int32) (x2 : Int32) (x3 : Int32) (b : Int32 × (Nat → Int32)) (hb : fX0_comes σ x1 x2 x3 = some b) : Ct 1 Z l yX0_comes cX0_comes 5 (some .int) 0 [.ref (zA Z j 0), .int x1, .int x2, .int x3] (sR M0 j σ) N (some (Value.int b.1), sR M0 j (b.2), N) :=
  metG (fin := (finX0_comes M0 N j)) (by decide) (Nat.le_of_ble_eq_true rfl) (fun E _ C => bX0_comes C hj σ x1 x2 x3) hb
theorem dX0_isFenced_0 : decode cX0_isFenced 0 = .ok (.aload_n 0, 1) := by decide +kernel
theorem dX0_isFenced_1 : decode cX0_isFenced 1 = .ok (.getfield 28, 3) := by decide +kernel
theorem dX0_isFenced_4 : decode cX0_isFenced 4 = .ok (.iload_n 1, 1) := by decide +kernel
theorem dX0_isFenced_5 : decode cX0_isFenced 5 = .ok (.ishr, 1) := by decide +kernel
theorem dX0_isFenced_6 : decode cX0_isFenced 6 = .ok (.iconst 1, 1) := by decide +kernel
theorem dX0_isFenced_7 : decode cX0_isFenced 7 = .ok (.iand, 1) := by decide +kernel
theorem dX0_isFenced_8 : decode cX0_isFenced 8 = .ok (.iconst 1, 1) := by decide +kernel
theorem dX0_isFenced_9 : decode cX0_isFenced 9 = .ok (.if_icmp .ne 7, 3) := by decide +kernel
theorem dX0_isFenced_12 : decode cX0_isFenced 12 = .ok (.iconst 1, 1) := by decide +kernel
theorem dX0_isFenced_13 : decode cX0_isFenced 13 = .ok (.goto 4, 3) := by decide +kernel
theorem dX0_isFenced_16 : decode cX0_isFenced 16 = .ok (.iconst 0, 1) := by decide +kernel
theorem dX0_isFenced_17 : decode cX0_isFenced 17 = .ok (.ireturn, 1) := by decide +kernel
def finX0_isFenced (M0 : Mi) (σ : Nat → Int32) (N : Ml) (j : Nat) : Int32 → Option Value × Mi × Ml := fun b => (some (Value.int b), sR M0 j σ, N)
noncomputable def fX0_isFenced (σ : Nat → Int32)  (x1 : Int32) : Int32 := (if (((σ 2) >>> (x1 &&& 31)) &&& 1) = 1 then 1 else 0)
theorem bX0_isFenced {Z : Zt} {E : Ec} {M0 : Mi} {σ : Nat → Int32} {N : Ml} {j : Nat} (C : Ok 1 Z E cX0_isFenced 2 RX0 (some .boolean) 0) (hj : j < 4)   (x1 : Int32)  : GT Z E 2 (finX0_isFenced M0 σ N j) 0 [(0, .ref (zA Z j 0)), (1, .int x1)] [] (sR M0 j σ) N (some (fX0_isFenced σ x1)) := by
  unfold fX0_isFenced
  refine r_aload_n C dX0_isFenced_0 0 0 rfl rfl ?_
  refine gf_X0_28 (v := (σ 2)) C hj dX0_isFenced_1 (sR_at _ _ _ _) ?_
  refine r_iload_n C dX0_isFenced_4 1 1 rfl rfl ?_
  refine r_ishr C dX0_isFenced_5 ?_
  refine r_iconst (v := 1) C dX0_isFenced_6 (by decide) ?_
  refine r_iand C dX0_isFenced_7 ?_
  refine r_iconst (v := 1) C dX0_isFenced_8 (by decide) ?_
  refine r_st ?_
  refine r_ic_ne (tgt := 16) C dX0_isFenced_9 (by decide) (fun c1 => ?_) (fun c1 => ?_)
  · refine r_iconst (v := 0) C dX0_isFenced_16 (by decide) ?_
    exact r_zret C dX0_isFenced_17 (Or.inl rfl) rfl
  · refine r_iconst (v := 1) C dX0_isFenced_12 (by decide) ?_
    refine r_goto (tgt := 17) C dX0_isFenced_13 (by decide) ?_
    exact r_zret C dX0_isFenced_17 (Or.inr rfl) rfl
theorem zbX0_isFenced (σ : Nat → Int32) (x1 : Int32) : fX0_isFenced σ x1 = 0 ∨ fX0_isFenced σ x1 = 1 := by
  unfold fX0_isFenced; (repeat' split) <;> first | exact Or.inl rfl | exact Or.inr rfl
theorem mX0_isFenced (l : Launch) {Z : Zt} (hZ : Zok 1 Z) {j : Nat} (hj : j < 4) (M0 : Mi) (N : Ml) (σ : Nat → Int32) (x1 : Int32) : Ct 1 Z l yX0_isFenced cX0_isFenced 2 (some .boolean) 0 [.ref (zA Z j 0), .int x1] (sR M0 j σ) N (some (Value.int (fX0_isFenced σ x1)), sR M0 j σ, N) :=
  metG (fin := (finX0_isFenced M0 σ N j)) (by decide) (Nat.le_of_ble_eq_true rfl) (fun E _ C => bX0_isFenced C hj x1) rfl
theorem dX0_fences_0 : decode cX0_fences 0 = .ok (.iload_n 2, 1) := by decide +kernel
theorem dX0_fences_1 : decode cX0_fences 1 = .ok (.ifCond .eq 18, 3) := by decide +kernel
theorem dX0_fences_4 : decode cX0_fences 4 = .ok (.aload_n 0, 1) := by decide +kernel
theorem dX0_fences_5 : decode cX0_fences 5 = .ok (.dup, 1) := by decide +kernel
theorem dX0_fences_6 : decode cX0_fences 6 = .ok (.getfield 28, 3) := by decide +kernel
theorem dX0_fences_9 : decode cX0_fences 9 = .ok (.iconst 1, 1) := by decide +kernel
theorem dX0_fences_10 : decode cX0_fences 10 = .ok (.iload_n 1, 1) := by decide +kernel
theorem dX0_fences_11 : decode cX0_fences 11 = .ok (.ishl, 1) := by decide +kernel
theorem dX0_fences_12 : decode cX0_fences 12 = .ok (.ior, 1) := by decide +kernel
theorem dX0_fences_13 : decode cX0_fences 13 = .ok (.putfield 28, 3) := by decide +kernel
theorem dX0_fences_16 : decode cX0_fences 16 = .ok (.goto 17, 3) := by decide +kernel
theorem dX0_fences_19 : decode cX0_fences 19 = .ok (.aload_n 0, 1) := by decide +kernel
theorem dX0_fences_20 : decode cX0_fences 20 = .ok (.dup, 1) := by decide +kernel
theorem dX0_fences_21 : decode cX0_fences 21 = .ok (.getfield 28, 3) := by decide +kernel
theorem dX0_fences_24 : decode cX0_fences 24 = .ok (.iconst 1, 1) := by decide +kernel
theorem dX0_fences_25 : decode cX0_fences 25 = .ok (.iload_n 1, 1) := by decide +kernel
theorem dX0_fences_26 : decode cX0_fences 26 = .ok (.ishl, 1) := by decide +kernel
theorem dX0_fences_27 : decode cX0_fences 27 = .ok (.iconst (-1), 1) := by decide +kernel
theorem dX0_fences_28 : decode cX0_fences 28 = .ok (.ixor, 1) := by decide +kernel
theorem dX0_fences_29 : decode cX0_fences 29 = .ok (.iand, 1) := by decide +kernel
theorem dX0_fences_30 : decode cX0_fences 30 = .ok (.putfield 28, 3) := by decide +kernel
theorem dX0_fences_33 : decode cX0_fences 33 = .ok (.return_, 1) := by decide +kernel
def finX0_fences (M0 : Mi) (N : Ml) (j : Nat) : (Nat → Int32) → Option Value × Mi × Ml := fun b => (none, sR M0 j (b), N)
noncomputable def fX0_fences   (σ : Nat → Int32) (x1 : Int32) (x2 : Int32) : Option ((Nat → Int32)) := (if x2 = 0 then (some (upd σ 2 ((σ 2) &&& ((1 <<< (x1 &&& 31)) ^^^ (-1))))) else (some (upd σ 2 ((σ 2) ||| (1 <<< (x1 &&& 31))))))
theorem bX0_fences {Z : Zt} {E : Ec} {M0 : Mi} {N : Ml} {j : Nat} (C : Ok 1 Z E cX0_fences 3 RX0 none 0) (hj : j < 4)   (σ : Nat → Int32) (x1 : Int32) (x2 : Int32)  : GT Z E 3 (finX0_fences M0 N j) 0 [(0, .ref (zA Z j 0)), (1, .int x1), (2, .int x2)] [] (sR M0 j σ) N (fX0_fences σ x1 x2) := by
  unfold fX0_fences
  refine r_iload_n C dX0_fences_0 2 2 rfl rfl ?_
  refine r_if_eq (tgt := 19) C dX0_fences_1 (by decide) (fun c1 => ?_) (fun c1 => ?_)
  · refine r_aload_n C dX0_fences_19 0 0 rfl rfl ?_
    refine r_dup C dX0_fences_20 rfl ?_
    refine gf_X0_28 (v := (σ 2)) C hj dX0_fences_21 (sR_at _ _ _ _) ?_
    refine r_iconst (v := 1) C dX0_fences_24 (by decide) ?_
    refine r_iload_n C dX0_fences_25 1 1 rfl rfl ?_
    refine r_ishl C dX0_fences_26 ?_
    refine r_iconst (v := (-1)) C dX0_fences_27 (by decide) ?_
    refine r_ixor C dX0_fences_28 ?_
    refine r_iand C dX0_fences_29 ?_
    refine pf_X0_28 (M' := (sR M0 j (upd σ 2 ((σ 2) &&& ((1 <<< (x1 &&& 31)) ^^^ (-1)))))) C hj dX0_fences_30 (wM_sR _ _ _ _ _) ?_
    exact r_vret C dX0_fences_33 rfl
  · refine r_aload_n C dX0_fences_4 0 0 rfl rfl ?_
    refine r_dup C dX0_fences_5 rfl ?_
    refine gf_X0_28 (v := (σ 2)) C hj dX0_fences_6 (sR_at _ _ _ _) ?_
    refine r_iconst (v := 1) C dX0_fences_9 (by decide) ?_
    refine r_iload_n C dX0_fences_10 1 1 rfl rfl ?_
    refine r_ishl C dX0_fences_11 ?_
    refine r_ior C dX0_fences_12 ?_
    refine pf_X0_28 (M' := (sR M0 j (upd σ 2 ((σ 2) ||| (1 <<< (x1 &&& 31)))))) C hj dX0_fences_13 (wM_sR _ _ _ _ _) ?_
    refine r_goto (tgt := 33) C dX0_fences_16 (by decide) ?_
    exact r_vret C dX0_fences_33 rfl
theorem mX0_fences (l : Launch) {Z : Zt} (hZ : Zok 1 Z) {j : Nat} (hj : j < 4) (M0 : Mi) (N : Ml) (σ : Nat → Int32) (x1 : Int32) (x2 : Int32) (b : (Nat → Int32)) (hb : fX0_fences σ x1 x2 = some b) : Ct 1 Z l yX0_fences cX0_fences 3 none 0 [.ref (zA Z j 0), .int x1, .int x2] (sR M0 j σ) N (none, sR M0 j (b), N) :=
  metG (fin := (finX0_fences M0 N j)) (by decide) (Nat.le_of_ble_eq_true rfl) (fun E _ C => bX0_fences C hj σ x1 x2) hb
theorem dX0_clock_0 : decode cX0_clock 0 = .ok (.aload_n 0, 1) := by decide +kernel
theorem dX0_clock_1 : decode cX0_clock 1 = .ok (.getfield 35, 3) := by decide +kernel
theorem dX0_clock_4 : decode cX0_clock 4 = .ok (.bipush 24, 2) := by decide +kernel
theorem dX0_clock_6 : decode cX0_clock 6 = .ok (.irem, 1) := by decide +kernel
theorem dX0_clock_7 : decode cX0_clock 7 = .ok (.ireturn, 1) := by decide +kernel
def finX0_clock (M0 : Mi) (σ : Nat → Int32) (N : Ml) (j : Nat) : Int32 → Option Value × Mi × Ml := fun b => (some (Value.int b), sR M0 j σ, N)
noncomputable def fX0_clock (σ : Nat → Int32)   : Int32 := ((σ 0) - (σ 0) / 24 * 24)
theorem bX0_clock {Z : Zt} {E : Ec} {M0 : Mi} {σ : Nat → Int32} {N : Ml} {j : Nat} (C : Ok 1 Z E cX0_clock 1 RX0 (some .int) 0) (hj : j < 4)     : GT Z E 1 (finX0_clock M0 σ N j) 0 [(0, .ref (zA Z j 0))] [] (sR M0 j σ) N (some (fX0_clock σ )) := by
  unfold fX0_clock
  refine r_aload_n C dX0_clock_0 0 0 rfl rfl ?_
  refine gf_X0_35 (v := (σ 0)) C hj dX0_clock_1 (sR_at _ _ _ _) ?_
  refine r_bipush (v := 24) C dX0_clock_4 (by decide) ?_
  refine r_irem C dX0_clock_6 (by decide) ?_
  exact r_iret C dX0_clock_7 rfl
theorem mX0_clock (l : Launch) {Z : Zt} (hZ : Zok 1 Z) {j : Nat} (hj : j < 4) (M0 : Mi) (N : Ml) (σ : Nat → Int32) : Ct 1 Z l yX0_clock cX0_clock 1 (some .int) 0 [.ref (zA Z j 0)] (sR M0 j σ) N (some (Value.int (fX0_clock σ)), sR M0 j σ, N) :=
  metG (fin := (finX0_clock M0 σ N j)) (by decide) (Nat.le_of_ble_eq_true rfl) (fun E _ C => bX0_clock C hj) rfl
theorem dX0_rainsAt_0 : decode cX0_rainsAt 0 = .ok (.aload_n 0, 1) := by decide +kernel
theorem dX0_rainsAt_1 : decode cX0_rainsAt 1 = .ok (.getfield 32, 3) := by decide +kernel
theorem dX0_rainsAt_4 : decode cX0_rainsAt 4 = .ok (.iload_n 1, 1) := by decide +kernel
theorem dX0_rainsAt_5 : decode cX0_rainsAt 5 = .ok (.ishr, 1) := by decide +kernel
theorem dX0_rainsAt_6 : decode cX0_rainsAt 6 = .ok (.iconst 1, 1) := by decide +kernel
theorem dX0_rainsAt_7 : decode cX0_rainsAt 7 = .ok (.iand, 1) := by decide +kernel
theorem dX0_rainsAt_8 : decode cX0_rainsAt 8 = .ok (.iconst 1, 1) := by decide +kernel
theorem dX0_rainsAt_9 : decode cX0_rainsAt 9 = .ok (.if_icmp .ne 7, 3) := by decide +kernel
theorem dX0_rainsAt_12 : decode cX0_rainsAt 12 = .ok (.iconst 1, 1) := by decide +kernel
theorem dX0_rainsAt_13 : decode cX0_rainsAt 13 = .ok (.goto 4, 3) := by decide +kernel
theorem dX0_rainsAt_16 : decode cX0_rainsAt 16 = .ok (.iconst 0, 1) := by decide +kernel
theorem dX0_rainsAt_17 : decode cX0_rainsAt 17 = .ok (.ireturn, 1) := by decide +kernel
def finX0_rainsAt (M0 : Mi) (σ : Nat → Int32) (N : Ml) (j : Nat) : Int32 → Option Value × Mi × Ml := fun b => (some (Value.int b), sR M0 j σ, N)
noncomputable def fX0_rainsAt (σ : Nat → Int32)  (x1 : Int32) : Int32 := (if (((σ 6) >>> (x1 &&& 31)) &&& 1) = 1 then 1 else 0)
theorem bX0_rainsAt {Z : Zt} {E : Ec} {M0 : Mi} {σ : Nat → Int32} {N : Ml} {j : Nat} (C : Ok 1 Z E cX0_rainsAt 2 RX0 (some .boolean) 0) (hj : j < 4)   (x1 : Int32)  : GT Z E 2 (finX0_rainsAt M0 σ N j) 0 [(0, .ref (zA Z j 0)), (1, .int x1)] [] (sR M0 j σ) N (some (fX0_rainsAt σ x1)) := by
  unfold fX0_rainsAt
  refine r_aload_n C dX0_rainsAt_0 0 0 rfl rfl ?_
  refine gf_X0_32 (v := (σ 6)) C hj dX0_rainsAt_1 (sR_at _ _ _ _) ?_
  refine r_iload_n C dX0_rainsAt_4 1 1 rfl rfl ?_
  refine r_ishr C dX0_rainsAt_5 ?_
  refine r_iconst (v := 1) C dX0_rainsAt_6 (by decide) ?_
  refine r_iand C dX0_rainsAt_7 ?_
  refine r_iconst (v := 1) C dX0_rainsAt_8 (by decide) ?_
  refine r_st ?_
  refine r_ic_ne (tgt := 16) C dX0_rainsAt_9 (by decide) (fun c1 => ?_) (fun c1 => ?_)
  · refine r_iconst (v := 0) C dX0_rainsAt_16 (by decide) ?_
    exact r_zret C dX0_rainsAt_17 (Or.inl rfl) rfl
  · refine r_iconst (v := 1) C dX0_rainsAt_12 (by decide) ?_
    refine r_goto (tgt := 17) C dX0_rainsAt_13 (by decide) ?_
    exact r_zret C dX0_rainsAt_17 (Or.inr rfl) rfl
theorem zbX0_rainsAt (σ : Nat → Int32) (x1 : Int32) : fX0_rainsAt σ x1 = 0 ∨ fX0_rainsAt σ x1 = 1 := by
  unfold fX0_rainsAt; (repeat' split) <;> first | exact Or.inl rfl | exact Or.inr rfl
theorem mX0_rainsAt (l : Launch) {Z : Zt} (hZ : Zok 1 Z) {j : Nat} (hj : j < 4) (M0 : Mi) (N : Ml) (σ : Nat → Int32) (x1 : Int32) : Ct 1 Z l yX0_rainsAt cX0_rainsAt 2 (some .boolean) 0 [.ref (zA Z j 0), .int x1] (sR M0 j σ) N (some (Value.int (fX0_rainsAt σ x1)), sR M0 j σ, N) :=
  metG (fin := (finX0_rainsAt M0 σ N j)) (by decide) (Nat.le_of_ble_eq_true rfl) (fun E _ C => bX0_rainsAt C hj x1) rfl
theorem dX0_allTortoises_0 : decode cX0_allTortoises 0 = .ok (.iconst 1, 1) := by decide +kernel
theorem dX0_allTortoises_1 : decode cX0_allTortoises 1 = .ok (.aload_n 0, 1) := by decide +kernel
theorem dX0_allTortoises_2 : decode cX0_allTortoises 2 = .ok (.getfield 38, 3) := by decide +kernel
theorem dX0_allTortoises_5 : decode cX0_allTortoises 5 = .ok (.ishl, 1) := by decide +kernel
theorem dX0_allTortoises_6 : decode cX0_allTortoises 6 = .ok (.iconst 1, 1) := by decide +kernel
theorem dX0_allTortoises_7 : decode cX0_allTortoises 7 = .ok (.isub, 1) := by decide +kernel
theorem dX0_allTortoises_8 : decode cX0_allTortoises 8 = .ok (.ireturn, 1) := by decide +kernel
def finX0_allTortoises (M0 : Mi) (σ : Nat → Int32) (N : Ml) (j : Nat) : Int32 → Option Value × Mi × Ml := fun b => (some (Value.int b), sR M0 j σ, N)
noncomputable def fX0_allTortoises (σ : Nat → Int32)   : Int32 := ((1 <<< ((σ 1) &&& 31)) - 1)
theorem bX0_allTortoises {Z : Zt} {E : Ec} {M0 : Mi} {σ : Nat → Int32} {N : Ml} {j : Nat} (C : Ok 1 Z E cX0_allTortoises 1 RX0 (some .int) 0) (hj : j < 4)     : GT Z E 1 (finX0_allTortoises M0 σ N j) 0 [(0, .ref (zA Z j 0))] [] (sR M0 j σ) N (some (fX0_allTortoises σ )) := by
  unfold fX0_allTortoises
  refine r_iconst (v := 1) C dX0_allTortoises_0 (by decide) ?_
  refine r_aload_n C dX0_allTortoises_1 0 0 rfl rfl ?_
  refine gf_X0_38 (v := (σ 1)) C hj dX0_allTortoises_2 (sR_at _ _ _ _) ?_
  refine r_ishl C dX0_allTortoises_5 ?_
  refine r_iconst (v := 1) C dX0_allTortoises_6 (by decide) ?_
  refine r_isub C dX0_allTortoises_7 ?_
  exact r_iret C dX0_allTortoises_8 rfl
theorem mX0_allTortoises (l : Launch) {Z : Zt} (hZ : Zok 1 Z) {j : Nat} (hj : j < 4) (M0 : Mi) (N : Ml) (σ : Nat → Int32) : Ct 1 Z l yX0_allTortoises cX0_allTortoises 1 (some .int) 0 [.ref (zA Z j 0)] (sR M0 j σ) N (some (Value.int (fX0_allTortoises σ)), sR M0 j σ, N) :=
  metG (fin := (finX0_allTortoises M0 σ N j)) (by decide) (Nat.le_of_ble_eq_true rfl) (fun E _ C => bX0_allTortoises C hj) rfl
theorem dX0_tortoisesIn_0 : decode cX0_tortoisesIn 0 = .ok (.iconst 0, 1) := by decide +kernel
theorem dX0_tortoisesIn_1 : decode cX0_tortoisesIn 1 = .ok (.istore_n 2, 1) := by decide +kernel
theorem dX0_tortoisesIn_2 : decode cX0_tortoisesIn 2 = .ok (.iconst 0, 1) := by decide +kernel
theorem dX0_tortoisesIn_3 : decode cX0_tortoisesIn 3 = .ok (.istore_n 3, 1) := by decide +kernel
theorem dX0_tortoisesIn_4 : decode cX0_tortoisesIn 4 = .ok (.iload_n 3, 1) := by decide +kernel
theorem dX0_tortoisesIn_5 : decode cX0_tortoisesIn 5 = .ok (.aload_n 0, 1) := by decide +kernel
theorem dX0_tortoisesIn_6 : decode cX0_tortoisesIn 6 = .ok (.getfield 38, 3) := by decide +kernel
theorem dX0_tortoisesIn_9 : decode cX0_tortoisesIn 9 = .ok (.if_icmp .ge 25, 3) := by decide +kernel
theorem dX0_tortoisesIn_12 : decode cX0_tortoisesIn 12 = .ok (.aload_n 0, 1) := by decide +kernel
theorem dX0_tortoisesIn_13 : decode cX0_tortoisesIn 13 = .ok (.getfield 18, 3) := by decide +kernel
theorem dX0_tortoisesIn_16 : decode cX0_tortoisesIn 16 = .ok (.iload_n 3, 1) := by decide +kernel
theorem dX0_tortoisesIn_17 : decode cX0_tortoisesIn 17 = .ok (.iaload, 1) := by decide +kernel
theorem dX0_tortoisesIn_18 : decode cX0_tortoisesIn 18 = .ok (.iload_n 1, 1) := by decide +kernel
theorem dX0_tortoisesIn_19 : decode cX0_tortoisesIn 19 = .ok (.if_icmp .ne 9, 3) := by decide +kernel
theorem dX0_tortoisesIn_22 : decode cX0_tortoisesIn 22 = .ok (.iload_n 2, 1) := by decide +kernel
theorem dX0_tortoisesIn_23 : decode cX0_tortoisesIn 23 = .ok (.iconst 1, 1) := by decide +kernel
theorem dX0_tortoisesIn_24 : decode cX0_tortoisesIn 24 = .ok (.iload_n 3, 1) := by decide +kernel
theorem dX0_tortoisesIn_25 : decode cX0_tortoisesIn 25 = .ok (.ishl, 1) := by decide +kernel
theorem dX0_tortoisesIn_26 : decode cX0_tortoisesIn 26 = .ok (.ior, 1) := by decide +kernel
theorem dX0_tortoisesIn_27 : decode cX0_tortoisesIn 27 = .ok (.istore_n 2, 1) := by decide +kernel
theorem dX0_tortoisesIn_28 : decode cX0_tortoisesIn 28 = .ok (.iinc 3 1, 3) := by decide +kernel
theorem dX0_tortoisesIn_31 : decode cX0_tortoisesIn 31 = .ok (.goto (-27), 3) := by decide +kernel
theorem dX0_tortoisesIn_34 : decode cX0_tortoisesIn 34 = .ok (.iload_n 2, 1) := by decide +kernel
theorem dX0_tortoisesIn_35 : decode cX0_tortoisesIn 35 = .ok (.ireturn, 1) := by decide +kernel
def finX0_tortoisesIn (M0 : Mi) (σ : Nat → Int32) (N : Ml) (j : Nat) : Int32 → Option Value × Mi × Ml := fun b => (some (Value.int b), sR M0 j σ, N)
noncomputable def fX0_tortoisesIn_4 (σ : Nat → Int32)  : Nat → Int32 → Int32 → Int32 → Option (Int32)
  | 0 => fun _ _ _ => none
  | n + 1 => fun x1 x2 x3 => (if (σ 1) ≤ x3 then (some x2) else (if inb x3 8 then (if (σ (8 + 4 * ix x3)) = x1 then ((fX0_tortoisesIn_4 σ n) x1 (x2 ||| (1 <<< (x3 &&& 31))) (x3 + 1)) else ((fX0_tortoisesIn_4 σ n) x1 x2 (x3 + 1))) else none))
theorem bX0_tortoisesIn_4 {Z : Zt} {E : Ec} {M0 : Mi} {σ : Nat → Int32} {N : Ml} {j : Nat} (C : Ok 1 Z E cX0_tortoisesIn 4 RX0 (some .int) 0) (hj : j < 4)   : ∀ (n : Nat) (x1 : Int32) (x2 : Int32) (x3 : Int32), GT Z E 4 (finX0_tortoisesIn M0 σ N j) 4 [(0, .ref (zA Z j 0)), (1, .int x1), (2, .int x2), (3, .int x3)] [] (sR M0 j σ) N (fX0_tortoisesIn_4 σ n x1 x2 x3) := by
  intro n
  induction n with
  | zero => intro x1 x2 x3; exact r_none
  | succ n ih =>
    intro x1 x2 x3
    rw [fX0_tortoisesIn_4]
    refine r_iload_n C dX0_tortoisesIn_4 3 3 rfl rfl ?_
    refine r_aload_n C dX0_tortoisesIn_5 0 0 rfl rfl ?_
    refine gf_X0_38 (v := (σ 1)) C hj dX0_tortoisesIn_6 (sR_at _ _ _ _) ?_
    refine r_ic_ge (tgt := 34) C dX0_tortoisesIn_9 (by decide) (fun c1 => ?_) (fun c1 => ?_)
    · refine r_iload_n C dX0_tortoisesIn_34 2 2 rfl rfl ?_
      exact r_iret C dX0_tortoisesIn_35 rfl
    · refine r_aload_n C dX0_tortoisesIn_12 0 0 rfl rfl ?_
      refine gf_X0_18 C hj dX0_tortoisesIn_13 ?_
      refine r_iload_n C dX0_tortoisesIn_16 3 3 rfl rfl ?_
      refine r_guard (fun h2 => ?_)
      refine ald_I3 (v := (σ (8 + 4 * ix x3))) C hj h2 (sR_at _ _ _ _) dX0_tortoisesIn_17 ?_
      refine r_iload_n C dX0_tortoisesIn_18 1 1 rfl rfl ?_
      refine r_ic_ne (tgt := 28) C dX0_tortoisesIn_19 (by decide) (fun c3 => ?_) (fun c3 => ?_)
      · refine r_iinc (v := (x3 + 1)) (lv' := [(3, .int (x3 + 1)), (0, .ref (zA Z j 0)), (1, .int x1), (2, .int x2)]) C dX0_tortoisesIn_28 3 rfl rfl (by decide) rfl ?_
        refine r_goto (tgt := 4) C dX0_tortoisesIn_31 (by decide) ?_
        refine r_lv [1, 2, 3, 0] (lv' := [(0, .ref (zA Z j 0)), (1, .int x1), (2, .int x2), (3, .int (x3 + 1))]) rfl ?_
        exact ih x1 x2 (x3 + 1)
      · refine r_iload_n C dX0_tortoisesIn_22 2 2 rfl rfl ?_
        refine r_iconst (v := 1) C dX0_tortoisesIn_23 (by decide) ?_
        refine r_iload_n C dX0_tortoisesIn_24 3 3 rfl rfl ?_
        refine r_ishl C dX0_tortoisesIn_25 ?_
        refine r_ior C dX0_tortoisesIn_26 ?_
        refine r_istore_n (lv' := [(2, .int (x2 ||| (1 <<< (x3 &&& 31)))), (0, .ref (zA Z j 0)), (1, .int x1), (3, .int x3)]) C dX0_tortoisesIn_27 2 rfl (by decide) rfl ?_
        refine r_iinc (v := (x3 + 1)) (lv' := [(3, .int (x3 + 1)), (2, .int (x2 ||| (1 <<< (x3 &&& 31)))), (0, .ref (zA Z j 0)), (1, .int x1)]) C dX0_tortoisesIn_28 3 rfl rfl (by decide) rfl ?_
        refine r_goto (tgt := 4) C dX0_tortoisesIn_31 (by decide) ?_
        refine r_lv [2, 3, 1, 0] (lv' := [(0, .ref (zA Z j 0)), (1, .int x1), (2, .int (x2 ||| (1 <<< (x3 &&& 31)))), (3, .int (x3 + 1))]) rfl ?_
        exact ih x1 (x2 ||| (1 <<< (x3 &&& 31))) (x3 + 1)
noncomputable def fX0_tortoisesIn (σ : Nat → Int32)  (x1 : Int32) : Option (Int32) := (fX0_tortoisesIn_4 σ fu x1 0 0)
theorem bX0_tortoisesIn {Z : Zt} {E : Ec} {M0 : Mi} {σ : Nat → Int32} {N : Ml} {j : Nat} (C : Ok 1 Z E cX0_tortoisesIn 4 RX0 (some .int) 0) (hj : j < 4)   (x1 : Int32)  : GT Z E 4 (finX0_tortoisesIn M0 σ N j) 0 [(0, .ref (zA Z j 0)), (1, .int x1)] [] (sR M0 j σ) N (fX0_tortoisesIn σ x1) := by
  unfold fX0_tortoisesIn
  refine r_iconst (v := 0) C dX0_tortoisesIn_0 (by decide) ?_
  refine r_istore_n (lv' := [(2, .int 0), (0, .ref (zA Z j 0)), (1, .int x1)]) C dX0_tortoisesIn_1 2 rfl (by decide) rfl ?_
  refine r_iconst (v := 0) C dX0_tortoisesIn_2 (by decide) ?_
  refine r_istore_n (lv' := [(3, .int 0), (2, .int 0), (0, .ref (zA Z j 0)), (1, .int x1)]) C dX0_tortoisesIn_3 3 rfl (by decide) rfl ?_
  refine r_lv [2, 3, 1, 0] (lv' := [(0, .ref (zA Z j 0)), (1, .int x1), (2, .int 0), (3, .int 0)]) rfl ?_
  exact bX0_tortoisesIn_4 C hj fu x1 0 0
theorem mX0_tortoisesIn (l : Launch) {Z : Zt} (hZ : Zok 1 Z) {j : Nat} (hj : j < 4) (M0 : Mi) (N : Ml) (σ : Nat → Int32) (x1 : Int32) (b : Int32) (hb : fX0_tortoisesIn σ x1 = some b) : Ct 1 Z l yX0_tortoisesIn cX0_tortoisesIn 4 (some .int) 0 [.ref (zA Z j 0), .int x1] (sR M0 j σ) N (some (Value.int b), sR M0 j σ, N) :=
  metG (fin := (finX0_tortoisesIn M0 σ N j)) (by decide) (Nat.le_of_ble_eq_true rfl) (fun E _ C => bX0_tortoisesIn C hj x1) hb
theorem dX0_tortoisesWith_0 : decode cX0_tortoisesWith 0 = .ok (.iconst 0, 1) := by decide +kernel
theorem dX0_tortoisesWith_1 : decode cX0_tortoisesWith 1 = .ok (.istore_n 2, 1) := by decide +kernel
theorem dX0_tortoisesWith_2 : decode cX0_tortoisesWith 2 = .ok (.iconst 0, 1) := by decide +kernel
theorem dX0_tortoisesWith_3 : decode cX0_tortoisesWith 3 = .ok (.istore_n 3, 1) := by decide +kernel
theorem dX0_tortoisesWith_4 : decode cX0_tortoisesWith 4 = .ok (.iload_n 3, 1) := by decide +kernel
theorem dX0_tortoisesWith_5 : decode cX0_tortoisesWith 5 = .ok (.aload_n 0, 1) := by decide +kernel
theorem dX0_tortoisesWith_6 : decode cX0_tortoisesWith 6 = .ok (.getfield 38, 3) := by decide +kernel
theorem dX0_tortoisesWith_9 : decode cX0_tortoisesWith 9 = .ok (.if_icmp .ge 24, 3) := by decide +kernel
theorem dX0_tortoisesWith_12 : decode cX0_tortoisesWith 12 = .ok (.iload_n 2, 1) := by decide +kernel
theorem dX0_tortoisesWith_13 : decode cX0_tortoisesWith 13 = .ok (.aload_n 0, 1) := by decide +kernel
theorem dX0_tortoisesWith_14 : decode cX0_tortoisesWith 14 = .ok (.getfield 21, 3) := by decide +kernel
theorem dX0_tortoisesWith_17 : decode cX0_tortoisesWith 17 = .ok (.iload_n 3, 1) := by decide +kernel
theorem dX0_tortoisesWith_18 : decode cX0_tortoisesWith 18 = .ok (.iaload, 1) := by decide +kernel
theorem dX0_tortoisesWith_19 : decode cX0_tortoisesWith 19 = .ok (.iload_n 1, 1) := by decide +kernel
theorem dX0_tortoisesWith_20 : decode cX0_tortoisesWith 20 = .ok (.ishr, 1) := by decide +kernel
theorem dX0_tortoisesWith_21 : decode cX0_tortoisesWith 21 = .ok (.iconst 1, 1) := by decide +kernel
theorem dX0_tortoisesWith_22 : decode cX0_tortoisesWith 22 = .ok (.iand, 1) := by decide +kernel
theorem dX0_tortoisesWith_23 : decode cX0_tortoisesWith 23 = .ok (.iload_n 3, 1) := by decide +kernel
theorem dX0_tortoisesWith_24 : decode cX0_tortoisesWith 24 = .ok (.ishl, 1) := by decide +kernel
theorem dX0_tortoisesWith_25 : decode cX0_tortoisesWith 25 = .ok (.ior, 1) := by decide +kernel
theorem dX0_tortoisesWith_26 : decode cX0_tortoisesWith 26 = .ok (.istore_n 2, 1) := by decide +kernel
theorem dX0_tortoisesWith_27 : decode cX0_tortoisesWith 27 = .ok (.iinc 3 1, 3) := by decide +kernel
theorem dX0_tortoisesWith_30 : decode cX0_tortoisesWith 30 = .ok (.goto (-26), 3) := by decide +kernel
theorem dX0_tortoisesWith_33 : decode cX0_tortoisesWith 33 = .ok (.iload_n 2, 1) := by decide +kernel
theorem dX0_tortoisesWith_34 : decode cX0_tortoisesWith 34 = .ok (.ireturn, 1) := by decide +kernel
def finX0_tortoisesWith (M0 : Mi) (σ : Nat → Int32) (N : Ml) (j : Nat) : Int32 → Option Value × Mi × Ml := fun b => (some (Value.int b), sR M0 j σ, N)
noncomputable def fX0_tortoisesWith_4 (σ : Nat → Int32)  : Nat → Int32 → Int32 → Int32 → Option (Int32)
  | 0 => fun _ _ _ => none
  | n + 1 => fun x1 x2 x3 => (if (σ 1) ≤ x3 then (some x2) else (if inb x3 8 then ((fX0_tortoisesWith_4 σ n) x1 (x2 ||| ((((σ (9 + 4 * ix x3)) >>> (x1 &&& 31)) &&& 1) <<< (x3 &&& 31))) (x3 + 1)) else none))
theorem bX0_tortoisesWith_4 {Z : Zt} {E : Ec} {M0 : Mi} {σ : Nat → Int32} {N : Ml} {j : Nat} (C : Ok 1 Z E cX0_tortoisesWith 4 RX0 (some .int) 0) (hj : j < 4)   : ∀ (n : Nat) (x1 : Int32) (x2 : Int32) (x3 : Int32), GT Z E 4 (finX0_tortoisesWith M0 σ N j) 4 [(0, .ref (zA Z j 0)), (1, .int x1), (2, .int x2), (3, .int x3)] [] (sR M0 j σ) N (fX0_tortoisesWith_4 σ n x1 x2 x3) := by
  intro n
  induction n with
  | zero => intro x1 x2 x3; exact r_none
  | succ n ih =>
    intro x1 x2 x3
    rw [fX0_tortoisesWith_4]
    refine r_iload_n C dX0_tortoisesWith_4 3 3 rfl rfl ?_
    refine r_aload_n C dX0_tortoisesWith_5 0 0 rfl rfl ?_
    refine gf_X0_38 (v := (σ 1)) C hj dX0_tortoisesWith_6 (sR_at _ _ _ _) ?_
    refine r_ic_ge (tgt := 33) C dX0_tortoisesWith_9 (by decide) (fun c1 => ?_) (fun c1 => ?_)
    · refine r_iload_n C dX0_tortoisesWith_33 2 2 rfl rfl ?_
      exact r_iret C dX0_tortoisesWith_34 rfl
    · refine r_iload_n C dX0_tortoisesWith_12 2 2 rfl rfl ?_
      refine r_aload_n C dX0_tortoisesWith_13 0 0 rfl rfl ?_
      refine gf_X0_21 C hj dX0_tortoisesWith_14 ?_
      refine r_iload_n C dX0_tortoisesWith_17 3 3 rfl rfl ?_
      refine r_guard (fun h2 => ?_)
      refine ald_I4 (v := (σ (9 + 4 * ix x3))) C hj h2 (sR_at _ _ _ _) dX0_tortoisesWith_18 ?_
      refine r_iload_n C dX0_tortoisesWith_19 1 1 rfl rfl ?_
      refine r_ishr C dX0_tortoisesWith_20 ?_
      refine r_iconst (v := 1) C dX0_tortoisesWith_21 (by decide) ?_
      refine r_iand C dX0_tortoisesWith_22 ?_
      refine r_iload_n C dX0_tortoisesWith_23 3 3 rfl rfl ?_
      refine r_ishl C dX0_tortoisesWith_24 ?_
      refine r_ior C dX0_tortoisesWith_25 ?_
      refine r_istore_n (lv' := [(2, .int (x2 ||| ((((σ (9 + 4 * ix x3)) >>> (x1 &&& 31)) &&& 1) <<< (x3 &&& 31)))), (0, .ref (zA Z j 0)), (1, .int x1), (3, .int x3)]) C dX0_tortoisesWith_26 2 rfl (by decide) rfl ?_
      refine r_iinc (v := (x3 + 1)) (lv' := [(3, .int (x3 + 1)), (2, .int (x2 ||| ((((σ (9 + 4 * ix x3)) >>> (x1 &&& 31)) &&& 1) <<< (x3 &&& 31)))), (0, .ref (zA Z j 0)), (1, .int x1)]) C dX0_tortoisesWith_27 3 rfl rfl (by decide) rfl ?_
      refine r_goto (tgt := 4) C dX0_tortoisesWith_30 (by decide) ?_
      refine r_lv [2, 3, 1, 0] (lv' := [(0, .ref (zA Z j 0)), (1, .int x1), (2, .int (x2 ||| ((((σ (9 + 4 * ix x3)) >>> (x1 &&& 31)) &&& 1) <<< (x3 &&& 31)))), (3, .int (x3 + 1))]) rfl ?_
      exact ih x1 (x2 ||| ((((σ (9 + 4 * ix x3)) >>> (x1 &&& 31)) &&& 1) <<< (x3 &&& 31))) (x3 + 1)
noncomputable def fX0_tortoisesWith (σ : Nat → Int32)  (x1 : Int32) : Option (Int32) := (fX0_tortoisesWith_4 σ fu x1 0 0)
theorem bX0_tortoisesWith {Z : Zt} {E : Ec} {M0 : Mi} {σ : Nat → Int32} {N : Ml} {j : Nat} (C : Ok 1 Z E cX0_tortoisesWith 4 RX0 (some .int) 0) (hj : j < 4)   (x1 : Int32)  : GT Z E 4 (finX0_tortoisesWith M0 σ N j) 0 [(0, .ref (zA Z j 0)), (1, .int x1)] [] (sR M0 j σ) N (fX0_tortoisesWith σ x1) := by
  unfold fX0_tortoisesWith
  refine r_iconst (v := 0) C dX0_tortoisesWith_0 (by decide) ?_
  refine r_istore_n (lv' := [(2, .int 0), (0, .ref (zA Z j 0)), (1, .int x1)]) C dX0_tortoisesWith_1 2 rfl (by decide) rfl ?_
  refine r_iconst (v := 0) C dX0_tortoisesWith_2 (by decide) ?_
  refine r_istore_n (lv' := [(3, .int 0), (2, .int 0), (0, .ref (zA Z j 0)), (1, .int x1)]) C dX0_tortoisesWith_3 3 rfl (by decide) rfl ?_
  refine r_lv [2, 3, 1, 0] (lv' := [(0, .ref (zA Z j 0)), (1, .int x1), (2, .int 0), (3, .int 0)]) rfl ?_
  exact bX0_tortoisesWith_4 C hj fu x1 0 0
theorem mX0_tortoisesWith (l : Launch) {Z : Zt} (hZ : Zok 1 Z) {j : Nat} (hj : j < 4) (M0 : Mi) (N : Ml) (σ : Nat → Int32) (x1 : Int32) (b : Int32) (hb : fX0_tortoisesWith σ x1 = some b) : Ct 1 Z l yX0_tortoisesWith cX0_tortoisesWith 4 (some .int) 0 [.ref (zA Z j 0), .int x1] (sR M0 j σ) N (some (Value.int b), sR M0 j σ, N) :=
  metG (fin := (finX0_tortoisesWith M0 σ N j)) (by decide) (Nat.le_of_ble_eq_true rfl) (fun E _ C => bX0_tortoisesWith C hj x1) hb
theorem dX0_cellsOf_0 : decode cX0_cellsOf 0 = .ok (.iconst 0, 1) := by decide +kernel
theorem dX0_cellsOf_1 : decode cX0_cellsOf 1 = .ok (.istore_n 2, 1) := by decide +kernel
theorem dX0_cellsOf_2 : decode cX0_cellsOf 2 = .ok (.iconst 0, 1) := by decide +kernel
theorem dX0_cellsOf_3 : decode cX0_cellsOf 3 = .ok (.istore_n 3, 1) := by decide +kernel
theorem dX0_cellsOf_4 : decode cX0_cellsOf 4 = .ok (.iload_n 3, 1) := by decide +kernel
theorem dX0_cellsOf_5 : decode cX0_cellsOf 5 = .ok (.aload_n 0, 1) := by decide +kernel
theorem dX0_cellsOf_6 : decode cX0_cellsOf 6 = .ok (.getfield 38, 3) := by decide +kernel
theorem dX0_cellsOf_9 : decode cX0_cellsOf 9 = .ok (.if_icmp .ge 29, 3) := by decide +kernel
theorem dX0_cellsOf_12 : decode cX0_cellsOf 12 = .ok (.iload_n 1, 1) := by decide +kernel
theorem dX0_cellsOf_13 : decode cX0_cellsOf 13 = .ok (.iload_n 3, 1) := by decide +kernel
theorem dX0_cellsOf_14 : decode cX0_cellsOf 14 = .ok (.ishr, 1) := by decide +kernel
theorem dX0_cellsOf_15 : decode cX0_cellsOf 15 = .ok (.iconst 1, 1) := by decide +kernel
theorem dX0_cellsOf_16 : decode cX0_cellsOf 16 = .ok (.iand, 1) := by decide +kernel
theorem dX0_cellsOf_17 : decode cX0_cellsOf 17 = .ok (.iconst 1, 1) := by decide +kernel
theorem dX0_cellsOf_18 : decode cX0_cellsOf 18 = .ok (.if_icmp .ne 14, 3) := by decide +kernel
theorem dX0_cellsOf_21 : decode cX0_cellsOf 21 = .ok (.iload_n 2, 1) := by decide +kernel
theorem dX0_cellsOf_22 : decode cX0_cellsOf 22 = .ok (.iconst 1, 1) := by decide +kernel
theorem dX0_cellsOf_23 : decode cX0_cellsOf 23 = .ok (.aload_n 0, 1) := by decide +kernel
theorem dX0_cellsOf_24 : decode cX0_cellsOf 24 = .ok (.getfield 18, 3) := by decide +kernel
theorem dX0_cellsOf_27 : decode cX0_cellsOf 27 = .ok (.iload_n 3, 1) := by decide +kernel
theorem dX0_cellsOf_28 : decode cX0_cellsOf 28 = .ok (.iaload, 1) := by decide +kernel
theorem dX0_cellsOf_29 : decode cX0_cellsOf 29 = .ok (.ishl, 1) := by decide +kernel
theorem dX0_cellsOf_30 : decode cX0_cellsOf 30 = .ok (.ior, 1) := by decide +kernel
theorem dX0_cellsOf_31 : decode cX0_cellsOf 31 = .ok (.istore_n 2, 1) := by decide +kernel
theorem dX0_cellsOf_32 : decode cX0_cellsOf 32 = .ok (.iinc 3 1, 3) := by decide +kernel
theorem dX0_cellsOf_35 : decode cX0_cellsOf 35 = .ok (.goto (-31), 3) := by decide +kernel
theorem dX0_cellsOf_38 : decode cX0_cellsOf 38 = .ok (.iload_n 2, 1) := by decide +kernel
theorem dX0_cellsOf_39 : decode cX0_cellsOf 39 = .ok (.ireturn, 1) := by decide +kernel
def finX0_cellsOf (M0 : Mi) (σ : Nat → Int32) (N : Ml) (j : Nat) : Int32 → Option Value × Mi × Ml := fun b => (some (Value.int b), sR M0 j σ, N)
noncomputable def fX0_cellsOf_4 (σ : Nat → Int32)  : Nat → Int32 → Int32 → Int32 → Option (Int32)
  | 0 => fun _ _ _ => none
  | n + 1 => fun x1 x2 x3 => (if (σ 1) ≤ x3 then (some x2) else (if ((x1 >>> (x3 &&& 31)) &&& 1) = 1 then (if inb x3 8 then ((fX0_cellsOf_4 σ n) x1 (x2 ||| (1 <<< ((σ (8 + 4 * ix x3)) &&& 31))) (x3 + 1)) else none) else ((fX0_cellsOf_4 σ n) x1 x2 (x3 + 1))))
theorem bX0_cellsOf_4 {Z : Zt} {E : Ec} {M0 : Mi} {σ : Nat → Int32} {N : Ml} {j : Nat} (C : Ok 1 Z E cX0_cellsOf 4 RX0 (some .int) 0) (hj : j < 4)   : ∀ (n : Nat) (x1 : Int32) (x2 : Int32) (x3 : Int32), GT Z E 4 (finX0_cellsOf M0 σ N j) 4 [(0, .ref (zA Z j 0)), (1, .int x1), (2, .int x2), (3, .int x3)] [] (sR M0 j σ) N (fX0_cellsOf_4 σ n x1 x2 x3) := by
  intro n
  induction n with
  | zero => intro x1 x2 x3; exact r_none
  | succ n ih =>
    intro x1 x2 x3
    rw [fX0_cellsOf_4]
    refine r_iload_n C dX0_cellsOf_4 3 3 rfl rfl ?_
    refine r_aload_n C dX0_cellsOf_5 0 0 rfl rfl ?_
    refine gf_X0_38 (v := (σ 1)) C hj dX0_cellsOf_6 (sR_at _ _ _ _) ?_
    refine r_ic_ge (tgt := 38) C dX0_cellsOf_9 (by decide) (fun c1 => ?_) (fun c1 => ?_)
    · refine r_iload_n C dX0_cellsOf_38 2 2 rfl rfl ?_
      exact r_iret C dX0_cellsOf_39 rfl
    · refine r_iload_n C dX0_cellsOf_12 1 1 rfl rfl ?_
      refine r_iload_n C dX0_cellsOf_13 3 3 rfl rfl ?_
      refine r_ishr C dX0_cellsOf_14 ?_
      refine r_iconst (v := 1) C dX0_cellsOf_15 (by decide) ?_
      refine r_iand C dX0_cellsOf_16 ?_
      refine r_iconst (v := 1) C dX0_cellsOf_17 (by decide) ?_
      refine r_ic_ne (tgt := 32) C dX0_cellsOf_18 (by decide) (fun c2 => ?_) (fun c2 => ?_)
      · refine r_iinc (v := (x3 + 1)) (lv' := [(3, .int (x3 + 1)), (0, .ref (zA Z j 0)), (1, .int x1), (2, .int x2)]) C dX0_cellsOf_32 3 rfl rfl (by decide) rfl ?_
        refine r_goto (tgt := 4) C dX0_cellsOf_35 (by decide) ?_
        refine r_lv [1, 2, 3, 0] (lv' := [(0, .ref (zA Z j 0)), (1, .int x1), (2, .int x2), (3, .int (x3 + 1))]) rfl ?_
        exact ih x1 x2 (x3 + 1)
      · refine r_iload_n C dX0_cellsOf_21 2 2 rfl rfl ?_
        refine r_iconst (v := 1) C dX0_cellsOf_22 (by decide) ?_
        refine r_aload_n C dX0_cellsOf_23 0 0 rfl rfl ?_
        refine gf_X0_18 C hj dX0_cellsOf_24 ?_
        refine r_iload_n C dX0_cellsOf_27 3 3 rfl rfl ?_
        refine r_guard (fun h3 => ?_)
        refine ald_I3 (v := (σ (8 + 4 * ix x3))) C hj h3 (sR_at _ _ _ _) dX0_cellsOf_28 ?_
        refine r_ishl C dX0_cellsOf_29 ?_
        refine r_ior C dX0_cellsOf_30 ?_
        refine r_istore_n (lv' := [(2, .int (x2 ||| (1 <<< ((σ (8 + 4 * ix x3)) &&& 31)))), (0, .ref (zA Z j 0)), (1, .int x1), (3, .int x3)]) C dX0_cellsOf_31 2 rfl (by decide) rfl ?_
        refine r_iinc (v := (x3 + 1)) (lv' := [(3, .int (x3 + 1)), (2, .int (x2 ||| (1 <<< ((σ (8 + 4 * ix x3)) &&& 31)))), (0, .ref (zA Z j 0)), (1, .int x1)]) C dX0_cellsOf_32 3 rfl rfl (by decide) rfl ?_
        refine r_goto (tgt := 4) C dX0_cellsOf_35 (by decide) ?_
        refine r_lv [2, 3, 1, 0] (lv' := [(0, .ref (zA Z j 0)), (1, .int x1), (2, .int (x2 ||| (1 <<< ((σ (8 + 4 * ix x3)) &&& 31)))), (3, .int (x3 + 1))]) rfl ?_
        exact ih x1 (x2 ||| (1 <<< ((σ (8 + 4 * ix x3)) &&& 31))) (x3 + 1)
noncomputable def fX0_cellsOf (σ : Nat → Int32)  (x1 : Int32) : Option (Int32) := (fX0_cellsOf_4 σ fu x1 0 0)
theorem bX0_cellsOf {Z : Zt} {E : Ec} {M0 : Mi} {σ : Nat → Int32} {N : Ml} {j : Nat} (C : Ok 1 Z E cX0_cellsOf 4 RX0 (some .int) 0) (hj : j < 4)   (x1 : Int32)  : GT Z E 4 (finX0_cellsOf M0 σ N j) 0 [(0, .ref (zA Z j 0)), (1, .int x1)] [] (sR M0 j σ) N (fX0_cellsOf σ x1) := by
  unfold fX0_cellsOf
  refine r_iconst (v := 0) C dX0_cellsOf_0 (by decide) ?_
  refine r_istore_n (lv' := [(2, .int 0), (0, .ref (zA Z j 0)), (1, .int x1)]) C dX0_cellsOf_1 2 rfl (by decide) rfl ?_
  refine r_iconst (v := 0) C dX0_cellsOf_2 (by decide) ?_
  refine r_istore_n (lv' := [(3, .int 0), (2, .int 0), (0, .ref (zA Z j 0)), (1, .int x1)]) C dX0_cellsOf_3 3 rfl (by decide) rfl ?_
  refine r_lv [2, 3, 1, 0] (lv' := [(0, .ref (zA Z j 0)), (1, .int x1), (2, .int 0), (3, .int 0)]) rfl ?_
  exact bX0_cellsOf_4 C hj fu x1 0 0
theorem mX0_cellsOf (l : Launch) {Z : Zt} (hZ : Zok 1 Z) {j : Nat} (hj : j < 4) (M0 : Mi) (N : Ml) (σ : Nat → Int32) (x1 : Int32) (b : Int32) (hb : fX0_cellsOf σ x1 = some b) : Ct 1 Z l yX0_cellsOf cX0_cellsOf 4 (some .int) 0 [.ref (zA Z j 0), .int x1] (sR M0 j σ) N (some (Value.int b), sR M0 j σ, N) :=
  metG (fin := (finX0_cellsOf M0 σ N j)) (by decide) (Nat.le_of_ble_eq_true rfl) (fun E _ C => bX0_cellsOf C hj x1) hb
theorem dX0_subjectsIn_0 : decode cX0_subjectsIn 0 = .ok (.iconst 0, 1) := by decide +kernel
theorem dX0_subjectsIn_1 : decode cX0_subjectsIn 1 = .ok (.istore_n 2, 1) := by decide +kernel
theorem dX0_subjectsIn_2 : decode cX0_subjectsIn 2 = .ok (.iconst 0, 1) := by decide +kernel
theorem dX0_subjectsIn_3 : decode cX0_subjectsIn 3 = .ok (.istore_n 3, 1) := by decide +kernel
theorem dX0_subjectsIn_4 : decode cX0_subjectsIn 4 = .ok (.iload_n 3, 1) := by decide +kernel
theorem dX0_subjectsIn_5 : decode cX0_subjectsIn 5 = .ok (.aload_n 0, 1) := by decide +kernel
theorem dX0_subjectsIn_6 : decode cX0_subjectsIn 6 = .ok (.getfield 38, 3) := by decide +kernel
theorem dX0_subjectsIn_9 : decode cX0_subjectsIn 9 = .ok (.if_icmp .ge 32, 3) := by decide +kernel
theorem dX0_subjectsIn_12 : decode cX0_subjectsIn 12 = .ok (.iload_n 1, 1) := by decide +kernel
theorem dX0_subjectsIn_13 : decode cX0_subjectsIn 13 = .ok (.aload_n 0, 1) := by decide +kernel
theorem dX0_subjectsIn_14 : decode cX0_subjectsIn 14 = .ok (.getfield 18, 3) := by decide +kernel
theorem dX0_subjectsIn_17 : decode cX0_subjectsIn 17 = .ok (.iload_n 3, 1) := by decide +kernel
theorem dX0_subjectsIn_18 : decode cX0_subjectsIn 18 = .ok (.iaload, 1) := by decide +kernel
theorem dX0_subjectsIn_19 : decode cX0_subjectsIn 19 = .ok (.ishr, 1) := by decide +kernel
theorem dX0_subjectsIn_20 : decode cX0_subjectsIn 20 = .ok (.iconst 1, 1) := by decide +kernel
theorem dX0_subjectsIn_21 : decode cX0_subjectsIn 21 = .ok (.iand, 1) := by decide +kernel
theorem dX0_subjectsIn_22 : decode cX0_subjectsIn 22 = .ok (.iconst 1, 1) := by decide +kernel
theorem dX0_subjectsIn_23 : decode cX0_subjectsIn 23 = .ok (.if_icmp .ne 12, 3) := by decide +kernel
theorem dX0_subjectsIn_26 : decode cX0_subjectsIn 26 = .ok (.iload_n 2, 1) := by decide +kernel
theorem dX0_subjectsIn_27 : decode cX0_subjectsIn 27 = .ok (.aload_n 0, 1) := by decide +kernel
theorem dX0_subjectsIn_28 : decode cX0_subjectsIn 28 = .ok (.getfield 21, 3) := by decide +kernel
theorem dX0_subjectsIn_31 : decode cX0_subjectsIn 31 = .ok (.iload_n 3, 1) := by decide +kernel
theorem dX0_subjectsIn_32 : decode cX0_subjectsIn 32 = .ok (.iaload, 1) := by decide +kernel
theorem dX0_subjectsIn_33 : decode cX0_subjectsIn 33 = .ok (.ior, 1) := by decide +kernel
theorem dX0_subjectsIn_34 : decode cX0_subjectsIn 34 = .ok (.istore_n 2, 1) := by decide +kernel
theorem dX0_subjectsIn_35 : decode cX0_subjectsIn 35 = .ok (.iinc 3 1, 3) := by decide +kernel
theorem dX0_subjectsIn_38 : decode cX0_subjectsIn 38 = .ok (.goto (-34), 3) := by decide +kernel
theorem dX0_subjectsIn_41 : decode cX0_subjectsIn 41 = .ok (.iload_n 2, 1) := by decide +kernel
theorem dX0_subjectsIn_42 : decode cX0_subjectsIn 42 = .ok (.ireturn, 1) := by decide +kernel
def finX0_subjectsIn (M0 : Mi) (σ : Nat → Int32) (N : Ml) (j : Nat) : Int32 → Option Value × Mi × Ml := fun b => (some (Value.int b), sR M0 j σ, N)
noncomputable def fX0_subjectsIn_4 (σ : Nat → Int32)  : Nat → Int32 → Int32 → Int32 → Option (Int32)
  | 0 => fun _ _ _ => none
  | n + 1 => fun x1 x2 x3 => (if (σ 1) ≤ x3 then (some x2) else (if inb x3 8 then (if ((x1 >>> ((σ (8 + 4 * ix x3)) &&& 31)) &&& 1) = 1 then ((fX0_subjectsIn_4 σ n) x1 (x2 ||| (σ (9 + 4 * ix x3))) (x3 + 1)) else ((fX0_subjectsIn_4 σ n) x1 x2 (x3 + 1))) else none))
theorem bX0_subjectsIn_4 {Z : Zt} {E : Ec} {M0 : Mi} {σ : Nat → Int32} {N : Ml} {j : Nat} (C : Ok 1 Z E cX0_subjectsIn 4 RX0 (some .int) 0) (hj : j < 4)   : ∀ (n : Nat) (x1 : Int32) (x2 : Int32) (x3 : Int32), GT Z E 4 (finX0_subjectsIn M0 σ N j) 4 [(0, .ref (zA Z j 0)), (1, .int x1), (2, .int x2), (3, .int x3)] [] (sR M0 j σ) N (fX0_subjectsIn_4 σ n x1 x2 x3) := by
  intro n
  induction n with
  | zero => intro x1 x2 x3; exact r_none
  | succ n ih =>
    intro x1 x2 x3
    rw [fX0_subjectsIn_4]
    refine r_iload_n C dX0_subjectsIn_4 3 3 rfl rfl ?_
    refine r_aload_n C dX0_subjectsIn_5 0 0 rfl rfl ?_
    refine gf_X0_38 (v := (σ 1)) C hj dX0_subjectsIn_6 (sR_at _ _ _ _) ?_
    refine r_ic_ge (tgt := 41) C dX0_subjectsIn_9 (by decide) (fun c1 => ?_) (fun c1 => ?_)
    · refine r_iload_n C dX0_subjectsIn_41 2 2 rfl rfl ?_
      exact r_iret C dX0_subjectsIn_42 rfl
    · refine r_iload_n C dX0_subjectsIn_12 1 1 rfl rfl ?_
      refine r_aload_n C dX0_subjectsIn_13 0 0 rfl rfl ?_
      refine gf_X0_18 C hj dX0_subjectsIn_14 ?_
      refine r_iload_n C dX0_subjectsIn_17 3 3 rfl rfl ?_
      refine r_guard (fun h2 => ?_)
      refine ald_I3 (v := (σ (8 + 4 * ix x3))) C hj h2 (sR_at _ _ _ _) dX0_subjectsIn_18 ?_
      refine r_ishr C dX0_subjectsIn_19 ?_
      refine r_iconst (v := 1) C dX0_subjectsIn_20 (by decide) ?_
      refine r_iand C dX0_subjectsIn_21 ?_
      refine r_iconst (v := 1) C dX0_subjectsIn_22 (by decide) ?_
      refine r_ic_ne (tgt := 35) C dX0_subjectsIn_23 (by decide) (fun c3 => ?_) (fun c3 => ?_)
      · refine r_iinc (v := (x3 + 1)) (lv' := [(3, .int (x3 + 1)), (0, .ref (zA Z j 0)), (1, .int x1), (2, .int x2)]) C dX0_subjectsIn_35 3 rfl rfl (by decide) rfl ?_
        refine r_goto (tgt := 4) C dX0_subjectsIn_38 (by decide) ?_
        refine r_lv [1, 2, 3, 0] (lv' := [(0, .ref (zA Z j 0)), (1, .int x1), (2, .int x2), (3, .int (x3 + 1))]) rfl ?_
        exact ih x1 x2 (x3 + 1)
      · refine r_iload_n C dX0_subjectsIn_26 2 2 rfl rfl ?_
        refine r_aload_n C dX0_subjectsIn_27 0 0 rfl rfl ?_
        refine gf_X0_21 C hj dX0_subjectsIn_28 ?_
        refine r_iload_n C dX0_subjectsIn_31 3 3 rfl rfl ?_
        refine ald_I4 (v := (σ (9 + 4 * ix x3))) C hj h2 (sR_at _ _ _ _) dX0_subjectsIn_32 ?_
        refine r_ior C dX0_subjectsIn_33 ?_
        refine r_istore_n (lv' := [(2, .int (x2 ||| (σ (9 + 4 * ix x3)))), (0, .ref (zA Z j 0)), (1, .int x1), (3, .int x3)]) C dX0_subjectsIn_34 2 rfl (by decide) rfl ?_
        refine r_iinc (v := (x3 + 1)) (lv' := [(3, .int (x3 + 1)), (2, .int (x2 ||| (σ (9 + 4 * ix x3)))), (0, .ref (zA Z j 0)), (1, .int x1)]) C dX0_subjectsIn_35 3 rfl rfl (by decide) rfl ?_
        refine r_goto (tgt := 4) C dX0_subjectsIn_38 (by decide) ?_
        refine r_lv [2, 3, 1, 0] (lv' := [(0, .ref (zA Z j 0)), (1, .int x1), (2, .int (x2 ||| (σ (9 + 4 * ix x3)))), (3, .int (x3 + 1))]) rfl ?_
        exact ih x1 (x2 ||| (σ (9 + 4 * ix x3))) (x3 + 1)
noncomputable def fX0_subjectsIn (σ : Nat → Int32)  (x1 : Int32) : Option (Int32) := (fX0_subjectsIn_4 σ fu x1 0 0)
theorem bX0_subjectsIn {Z : Zt} {E : Ec} {M0 : Mi} {σ : Nat → Int32} {N : Ml} {j : Nat} (C : Ok 1 Z E cX0_subjectsIn 4 RX0 (some .int) 0) (hj : j < 4)   (x1 : Int32)  : GT Z E 4 (finX0_subjectsIn M0 σ N j) 0 [(0, .ref (zA Z j 0)), (1, .int x1)] [] (sR M0 j σ) N (fX0_subjectsIn σ x1) := by
  unfold fX0_subjectsIn
  refine r_iconst (v := 0) C dX0_subjectsIn_0 (by decide) ?_
  refine r_istore_n (lv' := [(2, .int 0), (0, .ref (zA Z j 0)), (1, .int x1)]) C dX0_subjectsIn_1 2 rfl (by decide) rfl ?_
  refine r_iconst (v := 0) C dX0_subjectsIn_2 (by decide) ?_
  refine r_istore_n (lv' := [(3, .int 0), (2, .int 0), (0, .ref (zA Z j 0)), (1, .int x1)]) C dX0_subjectsIn_3 3 rfl (by decide) rfl ?_
  refine r_lv [2, 3, 1, 0] (lv' := [(0, .ref (zA Z j 0)), (1, .int x1), (2, .int 0), (3, .int 0)]) rfl ?_
  exact bX0_subjectsIn_4 C hj fu x1 0 0
theorem mX0_subjectsIn (l : Launch) {Z : Zt} (hZ : Zok 1 Z) {j : Nat} (hj : j < 4) (M0 : Mi) (N : Ml) (σ : Nat → Int32) (x1 : Int32) (b : Int32) (hb : fX0_subjectsIn σ x1 = some b) : Ct 1 Z l yX0_subjectsIn cX0_subjectsIn 4 (some .int) 0 [.ref (zA Z j 0), .int x1] (sR M0 j σ) N (some (Value.int b), sR M0 j σ, N) :=
  metG (fin := (finX0_subjectsIn M0 σ N j)) (by decide) (Nat.le_of_ble_eq_true rfl) (fun E _ C => bX0_subjectsIn C hj x1) hb
theorem dJ6_bitCount_0f7a4_0 : decode cJ6_bitCount_0f7a4 0 = .ok (.iload_n 0, 1) := by decide +kernel
theorem dJ6_bitCount_0f7a4_1 : decode cJ6_bitCount_0f7a4 1 = .ok (.iload_n 0, 1) := by decide +kernel
theorem dJ6_bitCount_0f7a4_2 : decode cJ6_bitCount_0f7a4 2 = .ok (.iconst 1, 1) := by decide +kernel
theorem dJ6_bitCount_0f7a4_3 : decode cJ6_bitCount_0f7a4 3 = .ok (.iushr, 1) := by decide +kernel
theorem dJ6_bitCount_0f7a4_4 : decode cJ6_bitCount_0f7a4 4 = .ok (.ldc_w 265, 3) := by decide +kernel
theorem dJ6_bitCount_0f7a4_7 : decode cJ6_bitCount_0f7a4 7 = .ok (.iand, 1) := by decide +kernel
theorem dJ6_bitCount_0f7a4_8 : decode cJ6_bitCount_0f7a4 8 = .ok (.isub, 1) := by decide +kernel
theorem dJ6_bitCount_0f7a4_9 : decode cJ6_bitCount_0f7a4 9 = .ok (.istore_n 0, 1) := by decide +kernel
theorem dJ6_bitCount_0f7a4_10 : decode cJ6_bitCount_0f7a4 10 = .ok (.iload_n 0, 1) := by decide +kernel
theorem dJ6_bitCount_0f7a4_11 : decode cJ6_bitCount_0f7a4 11 = .ok (.ldc_w 266, 3) := by decide +kernel
theorem dJ6_bitCount_0f7a4_14 : decode cJ6_bitCount_0f7a4 14 = .ok (.iand, 1) := by decide +kernel
theorem dJ6_bitCount_0f7a4_15 : decode cJ6_bitCount_0f7a4 15 = .ok (.iload_n 0, 1) := by decide +kernel
theorem dJ6_bitCount_0f7a4_16 : decode cJ6_bitCount_0f7a4 16 = .ok (.iconst 2, 1) := by decide +kernel
theorem dJ6_bitCount_0f7a4_17 : decode cJ6_bitCount_0f7a4 17 = .ok (.iushr, 1) := by decide +kernel
theorem dJ6_bitCount_0f7a4_18 : decode cJ6_bitCount_0f7a4 18 = .ok (.ldc_w 266, 3) := by decide +kernel
theorem dJ6_bitCount_0f7a4_21 : decode cJ6_bitCount_0f7a4 21 = .ok (.iand, 1) := by decide +kernel
theorem dJ6_bitCount_0f7a4_22 : decode cJ6_bitCount_0f7a4 22 = .ok (.iadd, 1) := by decide +kernel
theorem dJ6_bitCount_0f7a4_23 : decode cJ6_bitCount_0f7a4 23 = .ok (.istore_n 0, 1) := by decide +kernel
theorem dJ6_bitCount_0f7a4_24 : decode cJ6_bitCount_0f7a4 24 = .ok (.iload_n 0, 1) := by decide +kernel
theorem dJ6_bitCount_0f7a4_25 : decode cJ6_bitCount_0f7a4 25 = .ok (.iload_n 0, 1) := by decide +kernel
theorem dJ6_bitCount_0f7a4_26 : decode cJ6_bitCount_0f7a4 26 = .ok (.iconst 4, 1) := by decide +kernel
theorem dJ6_bitCount_0f7a4_27 : decode cJ6_bitCount_0f7a4 27 = .ok (.iushr, 1) := by decide +kernel
theorem dJ6_bitCount_0f7a4_28 : decode cJ6_bitCount_0f7a4 28 = .ok (.iadd, 1) := by decide +kernel
theorem dJ6_bitCount_0f7a4_29 : decode cJ6_bitCount_0f7a4 29 = .ok (.ldc_w 267, 3) := by decide +kernel
theorem dJ6_bitCount_0f7a4_32 : decode cJ6_bitCount_0f7a4 32 = .ok (.iand, 1) := by decide +kernel
theorem dJ6_bitCount_0f7a4_33 : decode cJ6_bitCount_0f7a4 33 = .ok (.istore_n 0, 1) := by decide +kernel
theorem dJ6_bitCount_0f7a4_34 : decode cJ6_bitCount_0f7a4 34 = .ok (.iload_n 0, 1) := by decide +kernel
theorem dJ6_bitCount_0f7a4_35 : decode cJ6_bitCount_0f7a4 35 = .ok (.iload_n 0, 1) := by decide +kernel
theorem dJ6_bitCount_0f7a4_36 : decode cJ6_bitCount_0f7a4 36 = .ok (.bipush 8, 2) := by decide +kernel
theorem dJ6_bitCount_0f7a4_38 : decode cJ6_bitCount_0f7a4 38 = .ok (.iushr, 1) := by decide +kernel
theorem dJ6_bitCount_0f7a4_39 : decode cJ6_bitCount_0f7a4 39 = .ok (.iadd, 1) := by decide +kernel
theorem dJ6_bitCount_0f7a4_40 : decode cJ6_bitCount_0f7a4 40 = .ok (.istore_n 0, 1) := by decide +kernel
theorem dJ6_bitCount_0f7a4_41 : decode cJ6_bitCount_0f7a4 41 = .ok (.iload_n 0, 1) := by decide +kernel
theorem dJ6_bitCount_0f7a4_42 : decode cJ6_bitCount_0f7a4 42 = .ok (.iload_n 0, 1) := by decide +kernel
theorem dJ6_bitCount_0f7a4_43 : decode cJ6_bitCount_0f7a4 43 = .ok (.bipush 16, 2) := by decide +kernel
theorem dJ6_bitCount_0f7a4_45 : decode cJ6_bitCount_0f7a4 45 = .ok (.iushr, 1) := by decide +kernel
theorem dJ6_bitCount_0f7a4_46 : decode cJ6_bitCount_0f7a4 46 = .ok (.iadd, 1) := by decide +kernel
theorem dJ6_bitCount_0f7a4_47 : decode cJ6_bitCount_0f7a4 47 = .ok (.istore_n 0, 1) := by decide +kernel
theorem dJ6_bitCount_0f7a4_48 : decode cJ6_bitCount_0f7a4 48 = .ok (.iload_n 0, 1) := by decide +kernel
theorem dJ6_bitCount_0f7a4_49 : decode cJ6_bitCount_0f7a4 49 = .ok (.bipush 63, 2) := by decide +kernel
theorem dJ6_bitCount_0f7a4_51 : decode cJ6_bitCount_0f7a4 51 = .ok (.iand, 1) := by decide +kernel
theorem dJ6_bitCount_0f7a4_52 : decode cJ6_bitCount_0f7a4 52 = .ok (.ireturn, 1) := by decide +kernel
def finJ6_bitCount_0f7a4 (M : Mi) (N : Ml) : Int32 → Option Value × Mi × Ml := fun b => (some (Value.int b), M, N)
noncomputable def fJ6_bitCount_0f7a4   (x0 : Int32) : Int32 := ((((((((x0 - ((ushr x0 1) &&& 1431655765)) &&& 858993459) + ((ushr (x0 - ((ushr x0 1) &&& 1431655765)) 2) &&& 858993459)) + (ushr (((x0 - ((ushr x0 1) &&& 1431655765)) &&& 858993459) + ((ushr (x0 - ((ushr x0 1) &&& 1431655765)) 2) &&& 858993459)) 4)) &&& 252645135) + (ushr (((((x0 - ((ushr x0 1) &&& 1431655765)) &&& 858993459) + ((ushr (x0 - ((ushr x0 1) &&& 1431655765)) 2) &&& 858993459)) + (ushr (((x0 - ((ushr x0 1) &&& 1431655765)) &&& 858993459) + ((ushr (x0 - ((ushr x0 1) &&& 1431655765)) 2) &&& 858993459)) 4)) &&& 252645135) 8)) + (ushr ((((((x0 - ((ushr x0 1) &&& 1431655765)) &&& 858993459) + ((ushr (x0 - ((ushr x0 1) &&& 1431655765)) 2) &&& 858993459)) + (ushr (((x0 - ((ushr x0 1) &&& 1431655765)) &&& 858993459) + ((ushr (x0 - ((ushr x0 1) &&& 1431655765)) 2) &&& 858993459)) 4)) &&& 252645135) + (ushr (((((x0 - ((ushr x0 1) &&& 1431655765)) &&& 858993459) + ((ushr (x0 - ((ushr x0 1) &&& 1431655765)) 2) &&& 858993459)) + (ushr (((x0 - ((ushr x0 1) &&& 1431655765)) &&& 858993459) + ((ushr (x0 - ((ushr x0 1) &&& 1431655765)) 2) &&& 858993459)) 4)) &&& 252645135) 8)) 16)) &&& 63)
theorem bJ6_bitCount_0f7a4 {Z : Zt} {E : Ec} {M : Mi} {N : Ml} (C : Ok 1 Z E cJ6_bitCount_0f7a4 1 RJ6 (some .int) 0)    (x0 : Int32)  : GT Z E 1 (finJ6_bitCount_0f7a4 M N) 0 [(0, .int x0)] [] M N (some (fJ6_bitCount_0f7a4 x0)) := by
  unfold fJ6_bitCount_0f7a4
  refine r_iload_n C dJ6_bitCount_0f7a4_0 0 0 rfl rfl ?_
  refine r_iload_n C dJ6_bitCount_0f7a4_1 0 0 rfl rfl ?_
  refine r_iconst (v := 1) C dJ6_bitCount_0f7a4_2 (by decide) ?_
  refine r_iushr (v := (ushr x0 1)) C dJ6_bitCount_0f7a4_3 rfl ?_
  refine r_ldcw (v := 1431655765) C dJ6_bitCount_0f7a4_4 wd_409 ?_
  refine r_iand C dJ6_bitCount_0f7a4_7 ?_
  refine r_isub C dJ6_bitCount_0f7a4_8 ?_
  refine r_istore_n (lv' := [(0, .int (x0 - ((ushr x0 1) &&& 1431655765)))]) C dJ6_bitCount_0f7a4_9 0 rfl (by decide) rfl ?_
  refine r_iload_n C dJ6_bitCount_0f7a4_10 0 0 rfl rfl ?_
  refine r_ldcw (v := 858993459) C dJ6_bitCount_0f7a4_11 wd_410 ?_
  refine r_iand C dJ6_bitCount_0f7a4_14 ?_
  refine r_iload_n C dJ6_bitCount_0f7a4_15 0 0 rfl rfl ?_
  refine r_iconst (v := 2) C dJ6_bitCount_0f7a4_16 (by decide) ?_
  refine r_iushr (v := (ushr (x0 - ((ushr x0 1) &&& 1431655765)) 2)) C dJ6_bitCount_0f7a4_17 rfl ?_
  refine r_ldcw (v := 858993459) C dJ6_bitCount_0f7a4_18 wd_410 ?_
  refine r_iand C dJ6_bitCount_0f7a4_21 ?_
  refine r_iadd C dJ6_bitCount_0f7a4_22 ?_
  refine r_istore_n (lv' := [(0, .int (((x0 - ((ushr x0 1) &&& 1431655765)) &&& 858993459) + ((ushr (x0 - ((ushr x0 1) &&& 1431655765)) 2) &&& 858993459)))]) C dJ6_bitCount_0f7a4_23 0 rfl (by decide) rfl ?_
  refine r_iload_n C dJ6_bitCount_0f7a4_24 0 0 rfl rfl ?_
  refine r_iload_n C dJ6_bitCount_0f7a4_25 0 0 rfl rfl ?_
  refine r_iconst (v := 4) C dJ6_bitCount_0f7a4_26 (by decide) ?_
  refine r_iushr (v := (ushr (((x0 - ((ushr x0 1) &&& 1431655765)) &&& 858993459) + ((ushr (x0 - ((ushr x0 1) &&& 1431655765)) 2) &&& 858993459)) 4)) C dJ6_bitCount_0f7a4_27 rfl ?_
  refine r_iadd C dJ6_bitCount_0f7a4_28 ?_
  refine r_ldcw (v := 252645135) C dJ6_bitCount_0f7a4_29 wd_411 ?_
  refine r_iand C dJ6_bitCount_0f7a4_32 ?_
  refine r_istore_n (lv' := [(0, .int (((((x0 - ((ushr x0 1) &&& 1431655765)) &&& 858993459) + ((ushr (x0 - ((ushr x0 1) &&& 1431655765)) 2) &&& 858993459)) + (ushr (((x0 - ((ushr x0 1) &&& 1431655765)) &&& 858993459) + ((ushr (x0 - ((ushr x0 1) &&& 1431655765)) 2) &&& 858993459)) 4)) &&& 252645135))]) C dJ6_bitCount_0f7a4_33 0 rfl (by decide) rfl ?_
  refine r_iload_n C dJ6_bitCount_0f7a4_34 0 0 rfl rfl ?_
  refine r_iload_n C dJ6_bitCount_0f7a4_35 0 0 rfl rfl ?_
  refine r_bipush (v := 8) C dJ6_bitCount_0f7a4_36 (by decide) ?_
  refine r_iushr (v := (ushr (((((x0 - ((ushr x0 1) &&& 1431655765)) &&& 858993459) + ((ushr (x0 - ((ushr x0 1) &&& 1431655765)) 2) &&& 858993459)) + (ushr (((x0 - ((ushr x0 1) &&& 1431655765)) &&& 858993459) + ((ushr (x0 - ((ushr x0 1) &&& 1431655765)) 2) &&& 858993459)) 4)) &&& 252645135) 8)) C dJ6_bitCount_0f7a4_38 rfl ?_
  refine r_iadd C dJ6_bitCount_0f7a4_39 ?_
  refine r_istore_n (lv' := [(0, .int ((((((x0 - ((ushr x0 1) &&& 1431655765)) &&& 858993459) + ((ushr (x0 - ((ushr x0 1) &&& 1431655765)) 2) &&& 858993459)) + (ushr (((x0 - ((ushr x0 1) &&& 1431655765)) &&& 858993459) + ((ushr (x0 - ((ushr x0 1) &&& 1431655765)) 2) &&& 858993459)) 4)) &&& 252645135) + (ushr (((((x0 - ((ushr x0 1) &&& 1431655765)) &&& 858993459) + ((ushr (x0 - ((ushr x0 1) &&& 1431655765)) 2) &&& 858993459)) + (ushr (((x0 - ((ushr x0 1) &&& 1431655765)) &&& 858993459) + ((ushr (x0 - ((ushr x0 1) &&& 1431655765)) 2) &&& 858993459)) 4)) &&& 252645135) 8)))]) C dJ6_bitCount_0f7a4_40 0 rfl (by decide) rfl ?_
  refine r_iload_n C dJ6_bitCount_0f7a4_41 0 0 rfl rfl ?_
  refine r_iload_n C dJ6_bitCount_0f7a4_42 0 0 rfl rfl ?_
  refine r_bipush (v := 16) C dJ6_bitCount_0f7a4_43 (by decide) ?_
  refine r_iushr (v := (ushr ((((((x0 - ((ushr x0 1) &&& 1431655765)) &&& 858993459) + ((ushr (x0 - ((ushr x0 1) &&& 1431655765)) 2) &&& 858993459)) + (ushr (((x0 - ((ushr x0 1) &&& 1431655765)) &&& 858993459) + ((ushr (x0 - ((ushr x0 1) &&& 1431655765)) 2) &&& 858993459)) 4)) &&& 252645135) + (ushr (((((x0 - ((ushr x0 1) &&& 1431655765)) &&& 858993459) + ((ushr (x0 - ((ushr x0 1) &&& 1431655765)) 2) &&& 858993459)) + (ushr (((x0 - ((ushr x0 1) &&& 1431655765)) &&& 858993459) + ((ushr (x0 - ((ushr x0 1) &&& 1431655765)) 2) &&& 858993459)) 4)) &&& 252645135) 8)) 16)) C dJ6_bitCount_0f7a4_45 rfl ?_
  refine r_iadd C dJ6_bitCount_0f7a4_46 ?_
  refine r_istore_n (lv' := [(0, .int (((((((x0 - ((ushr x0 1) &&& 1431655765)) &&& 858993459) + ((ushr (x0 - ((ushr x0 1) &&& 1431655765)) 2) &&& 858993459)) + (ushr (((x0 - ((ushr x0 1) &&& 1431655765)) &&& 858993459) + ((ushr (x0 - ((ushr x0 1) &&& 1431655765)) 2) &&& 858993459)) 4)) &&& 252645135) + (ushr (((((x0 - ((ushr x0 1) &&& 1431655765)) &&& 858993459) + ((ushr (x0 - ((ushr x0 1) &&& 1431655765)) 2) &&& 858993459)) + (ushr (((x0 - ((ushr x0 1) &&& 1431655765)) &&& 858993459) + ((ushr (x0 - ((ushr x0 1) &&& 1431655765)) 2) &&& 858993459)) 4)) &&& 252645135) 8)) + (ushr ((((((x0 - ((ushr x0 1) &&& 1431655765)) &&& 858993459) + ((ushr (x0 - ((ushr x0 1) &&& 1431655765)) 2) &&& 858993459)) + (ushr (((x0 - ((ushr x0 1) &&& 1431655765)) &&& 858993459) + ((ushr (x0 - ((ushr x0 1) &&& 1431655765)) 2) &&& 858993459)) 4)) &&& 252645135) + (ushr (((((x0 - ((ushr x0 1) &&& 1431655765)) &&& 858993459) + ((ushr (x0 - ((ushr x0 1) &&& 1431655765)) 2) &&& 858993459)) + (ushr (((x0 - ((ushr x0 1) &&& 1431655765)) &&& 858993459) + ((ushr (x0 - ((ushr x0 1) &&& 1431655765)) 2) &&& 858993459)) 4)) &&& 252645135) 8)) 16)))]) C dJ6_bitCount_0f7a4_47 0 rfl (by decide) rfl ?_
  refine r_iload_n C dJ6_bitCount_0f7a4_48 0 0 rfl rfl ?_
  refine r_bipush (v := 63) C dJ6_bitCount_0f7a4_49 (by decide) ?_
  refine r_iand C dJ6_bitCount_0f7a4_51 ?_
  exact r_iret C dJ6_bitCount_0f7a4_52 rfl
theorem mJ6_bitCount_0f7a4 (l : Launch) {Z : Zt} (hZ : Zok 1 Z) (M : Mi) (N : Ml) (x0 : Int32) : Ct 1 Z l yJ6_bitCount_0f7a4 cJ6_bitCount_0f7a4 1 (some .int) 0 [.int x0] M N (some (Value.int (fJ6_bitCount_0f7a4 x0)), M, N) :=
  metG (fin := (finJ6_bitCount_0f7a4 M N)) (by decide) (Nat.le_of_ble_eq_true rfl) (fun E _ C => bJ6_bitCount_0f7a4 C x0) rfl
theorem dX0_booksOfAll_0 : decode cX0_booksOfAll 0 = .ok (.iconst 0, 1) := by decide +kernel
theorem dX0_booksOfAll_1 : decode cX0_booksOfAll 1 = .ok (.istore_n 1, 1) := by decide +kernel
theorem dX0_booksOfAll_2 : decode cX0_booksOfAll 2 = .ok (.iconst 0, 1) := by decide +kernel
theorem dX0_booksOfAll_3 : decode cX0_booksOfAll 3 = .ok (.istore_n 2, 1) := by decide +kernel
theorem dX0_booksOfAll_4 : decode cX0_booksOfAll 4 = .ok (.iload_n 2, 1) := by decide +kernel
theorem dX0_booksOfAll_5 : decode cX0_booksOfAll 5 = .ok (.aload_n 0, 1) := by decide +kernel
theorem dX0_booksOfAll_6 : decode cX0_booksOfAll 6 = .ok (.getfield 38, 3) := by decide +kernel
theorem dX0_booksOfAll_9 : decode cX0_booksOfAll 9 = .ok (.if_icmp .ge 21, 3) := by decide +kernel
theorem dX0_booksOfAll_12 : decode cX0_booksOfAll 12 = .ok (.iload_n 1, 1) := by decide +kernel
theorem dX0_booksOfAll_13 : decode cX0_booksOfAll 13 = .ok (.aload_n 0, 1) := by decide +kernel
theorem dX0_booksOfAll_14 : decode cX0_booksOfAll 14 = .ok (.getfield 21, 3) := by decide +kernel
theorem dX0_booksOfAll_17 : decode cX0_booksOfAll 17 = .ok (.iload_n 2, 1) := by decide +kernel
theorem dX0_booksOfAll_18 : decode cX0_booksOfAll 18 = .ok (.iaload, 1) := by decide +kernel
theorem dX0_booksOfAll_19 : decode cX0_booksOfAll 19 = .ok (.invokestatic 45, 3) := by decide +kernel
theorem dX0_booksOfAll_22 : decode cX0_booksOfAll 22 = .ok (.iadd, 1) := by decide +kernel
theorem dX0_booksOfAll_23 : decode cX0_booksOfAll 23 = .ok (.istore_n 1, 1) := by decide +kernel
theorem dX0_booksOfAll_24 : decode cX0_booksOfAll 24 = .ok (.iinc 2 1, 3) := by decide +kernel
theorem dX0_booksOfAll_27 : decode cX0_booksOfAll 27 = .ok (.goto (-23), 3) := by decide +kernel
theorem dX0_booksOfAll_30 : decode cX0_booksOfAll 30 = .ok (.iload_n 1, 1) := by decide +kernel
theorem dX0_booksOfAll_31 : decode cX0_booksOfAll 31 = .ok (.ireturn, 1) := by decide +kernel
def finX0_booksOfAll (M0 : Mi) (σ : Nat → Int32) (N : Ml) (j : Nat) : Int32 → Option Value × Mi × Ml := fun b => (some (Value.int b), sR M0 j σ, N)
noncomputable def fX0_booksOfAll_4 (σ : Nat → Int32)  : Nat → Int32 → Int32 → Option (Int32)
  | 0 => fun _ _ => none
  | n + 1 => fun x1 x2 => (if (σ 1) ≤ x2 then (some x1) else (if inb x2 8 then ((fX0_booksOfAll_4 σ n) (x1 + (fJ6_bitCount_0f7a4 (σ (9 + 4 * ix x2)))) (x2 + 1)) else none))
theorem bX0_booksOfAll_4 {Z : Zt} {E : Ec} {M0 : Mi} {σ : Nat → Int32} {N : Ml} {j : Nat} (C : Ok 1 Z E cX0_booksOfAll 3 RX0 (some .int) 1) (hj : j < 4)   : ∀ (n : Nat) (x1 : Int32) (x2 : Int32), GT Z E 3 (finX0_booksOfAll M0 σ N j) 4 [(0, .ref (zA Z j 0)), (1, .int x1), (2, .int x2)] [] (sR M0 j σ) N (fX0_booksOfAll_4 σ n x1 x2) := by
  intro n
  induction n with
  | zero => intro x1 x2; exact r_none
  | succ n ih =>
    intro x1 x2
    rw [fX0_booksOfAll_4]
    refine r_iload_n C dX0_booksOfAll_4 2 2 rfl rfl ?_
    refine r_aload_n C dX0_booksOfAll_5 0 0 rfl rfl ?_
    refine gf_X0_38 (v := (σ 1)) C hj dX0_booksOfAll_6 (sR_at _ _ _ _) ?_
    refine r_ic_ge (tgt := 30) C dX0_booksOfAll_9 (by decide) (fun c1 => ?_) (fun c1 => ?_)
    · refine r_iload_n C dX0_booksOfAll_30 1 1 rfl rfl ?_
      exact r_iret C dX0_booksOfAll_31 rfl
    · refine r_iload_n C dX0_booksOfAll_12 1 1 rfl rfl ?_
      refine r_aload_n C dX0_booksOfAll_13 0 0 rfl rfl ?_
      refine gf_X0_21 C hj dX0_booksOfAll_14 ?_
      refine r_iload_n C dX0_booksOfAll_17 2 2 rfl rfl ?_
      refine r_guard (fun h2 => ?_)
      refine ald_I4 (v := (σ (9 + 4 * ix x2))) C hj h2 (sR_at _ _ _ _) dX0_booksOfAll_18 ?_
      refine r_callS (rest := [.int x1]) (st2 := [.int (fJ6_bitCount_0f7a4 (σ (9 + 4 * ix x2))), .int x1]) C (mJ6_bitCount_0f7a4 (eL E) C.z _ _ (σ (9 + 4 * ix x2))) lk_X0_45 (by decide) rfl rfl (Nat.le_of_ble_eq_true rfl) dX0_booksOfAll_19 rfl ?_
      refine r_iadd C dX0_booksOfAll_22 ?_
      refine r_istore_n (lv' := [(1, .int (x1 + (fJ6_bitCount_0f7a4 (σ (9 + 4 * ix x2))))), (0, .ref (zA Z j 0)), (2, .int x2)]) C dX0_booksOfAll_23 1 rfl (by decide) rfl ?_
      refine r_iinc (v := (x2 + 1)) (lv' := [(2, .int (x2 + 1)), (1, .int (x1 + (fJ6_bitCount_0f7a4 (σ (9 + 4 * ix x2))))), (0, .ref (zA Z j 0))]) C dX0_booksOfAll_24 2 rfl rfl (by decide) rfl ?_
      refine r_goto (tgt := 4) C dX0_booksOfAll_27 (by decide) ?_
      refine r_lv [2, 1, 0] (lv' := [(0, .ref (zA Z j 0)), (1, .int (x1 + (fJ6_bitCount_0f7a4 (σ (9 + 4 * ix x2))))), (2, .int (x2 + 1))]) rfl ?_
      exact ih (x1 + (fJ6_bitCount_0f7a4 (σ (9 + 4 * ix x2)))) (x2 + 1)
noncomputable def fX0_booksOfAll (σ : Nat → Int32)   : Option (Int32) := (fX0_booksOfAll_4 σ fu 0 0)
theorem bX0_booksOfAll {Z : Zt} {E : Ec} {M0 : Mi} {σ : Nat → Int32} {N : Ml} {j : Nat} (C : Ok 1 Z E cX0_booksOfAll 3 RX0 (some .int) 1) (hj : j < 4)     : GT Z E 3 (finX0_booksOfAll M0 σ N j) 0 [(0, .ref (zA Z j 0))] [] (sR M0 j σ) N (fX0_booksOfAll σ ) := by
  unfold fX0_booksOfAll
  refine r_iconst (v := 0) C dX0_booksOfAll_0 (by decide) ?_
  refine r_istore_n (lv' := [(1, .int 0), (0, .ref (zA Z j 0))]) C dX0_booksOfAll_1 1 rfl (by decide) rfl ?_
  refine r_iconst (v := 0) C dX0_booksOfAll_2 (by decide) ?_
  refine r_istore_n (lv' := [(2, .int 0), (1, .int 0), (0, .ref (zA Z j 0))]) C dX0_booksOfAll_3 2 rfl (by decide) rfl ?_
  refine r_lv [2, 1, 0] (lv' := [(0, .ref (zA Z j 0)), (1, .int 0), (2, .int 0)]) rfl ?_
  exact bX0_booksOfAll_4 C hj fu 0 0
theorem mX0_booksOfAll (l : Launch) {Z : Zt} (hZ : Zok 1 Z) {j : Nat} (hj : j < 4) (M0 : Mi) (N : Ml) (σ : Nat → Int32) (b : Int32) (hb : fX0_booksOfAll σ = some b) : Ct 1 Z l yX0_booksOfAll cX0_booksOfAll 3 (some .int) 1 [.ref (zA Z j 0)] (sR M0 j σ) N (some (Value.int b), sR M0 j σ, N) :=
  metG (fin := (finX0_booksOfAll M0 σ N j)) (by decide) (Nat.le_of_ble_eq_true rfl) (fun E _ C => bX0_booksOfAll C hj) hb
theorem dX0_tippedOnes_0 : decode cX0_tippedOnes 0 = .ok (.iconst 0, 1) := by decide +kernel
theorem dX0_tippedOnes_1 : decode cX0_tippedOnes 1 = .ok (.istore_n 1, 1) := by decide +kernel
theorem dX0_tippedOnes_2 : decode cX0_tippedOnes 2 = .ok (.iconst 0, 1) := by decide +kernel
theorem dX0_tippedOnes_3 : decode cX0_tippedOnes 3 = .ok (.istore_n 2, 1) := by decide +kernel
theorem dX0_tippedOnes_4 : decode cX0_tippedOnes 4 = .ok (.iload_n 2, 1) := by decide +kernel
theorem dX0_tippedOnes_5 : decode cX0_tippedOnes 5 = .ok (.aload_n 0, 1) := by decide +kernel
theorem dX0_tippedOnes_6 : decode cX0_tippedOnes 6 = .ok (.getfield 38, 3) := by decide +kernel
theorem dX0_tippedOnes_9 : decode cX0_tippedOnes 9 = .ok (.if_icmp .ge 26, 3) := by decide +kernel
theorem dX0_tippedOnes_12 : decode cX0_tippedOnes 12 = .ok (.iload_n 1, 1) := by decide +kernel
theorem dX0_tippedOnes_13 : decode cX0_tippedOnes 13 = .ok (.aload_n 0, 1) := by decide +kernel
theorem dX0_tippedOnes_14 : decode cX0_tippedOnes 14 = .ok (.getfield 24, 3) := by decide +kernel
theorem dX0_tippedOnes_17 : decode cX0_tippedOnes 17 = .ok (.iload_n 2, 1) := by decide +kernel
theorem dX0_tippedOnes_18 : decode cX0_tippedOnes 18 = .ok (.baload, 1) := by decide +kernel
theorem dX0_tippedOnes_19 : decode cX0_tippedOnes 19 = .ok (.ifCond .eq 7, 3) := by decide +kernel
theorem dX0_tippedOnes_22 : decode cX0_tippedOnes 22 = .ok (.iconst 1, 1) := by decide +kernel
theorem dX0_tippedOnes_23 : decode cX0_tippedOnes 23 = .ok (.goto 4, 3) := by decide +kernel
theorem dX0_tippedOnes_26 : decode cX0_tippedOnes 26 = .ok (.iconst 0, 1) := by decide +kernel
theorem dX0_tippedOnes_27 : decode cX0_tippedOnes 27 = .ok (.iadd, 1) := by decide +kernel
theorem dX0_tippedOnes_28 : decode cX0_tippedOnes 28 = .ok (.istore_n 1, 1) := by decide +kernel
theorem dX0_tippedOnes_29 : decode cX0_tippedOnes 29 = .ok (.iinc 2 1, 3) := by decide +kernel
theorem dX0_tippedOnes_32 : decode cX0_tippedOnes 32 = .ok (.goto (-28), 3) := by decide +kernel
theorem dX0_tippedOnes_35 : decode cX0_tippedOnes 35 = .ok (.iload_n 1, 1) := by decide +kernel
theorem dX0_tippedOnes_36 : decode cX0_tippedOnes 36 = .ok (.ireturn, 1) := by decide +kernel
def finX0_tippedOnes (M0 : Mi) (σ : Nat → Int32) (N : Ml) (j : Nat) : Int32 → Option Value × Mi × Ml := fun b => (some (Value.int b), sR M0 j σ, N)
noncomputable def fX0_tippedOnes_4 (σ : Nat → Int32)  : Nat → Int32 → Int32 → Option (Int32)
  | 0 => fun _ _ => none
  | n + 1 => fun x1 x2 => (if (σ 1) ≤ x2 then (some x1) else (if inb x2 8 then ((fX0_tippedOnes_4 σ n) (x1 + (if (σ (10 + 4 * ix x2)) = 0 then 0 else 1 : Int32)) (x2 + 1)) else none))
theorem bX0_tippedOnes_4 {Z : Zt} {E : Ec} {M0 : Mi} {σ : Nat → Int32} {N : Ml} {j : Nat} (C : Ok 1 Z E cX0_tippedOnes 3 RX0 (some .int) 0) (hj : j < 4)   : ∀ (n : Nat) (x1 : Int32) (x2 : Int32), GT Z E 3 (finX0_tippedOnes M0 σ N j) 4 [(0, .ref (zA Z j 0)), (1, .int x1), (2, .int x2)] [] (sR M0 j σ) N (fX0_tippedOnes_4 σ n x1 x2) := by
  intro n
  induction n with
  | zero => intro x1 x2; exact r_none
  | succ n ih =>
    intro x1 x2
    rw [fX0_tippedOnes_4]
    refine r_iload_n C dX0_tippedOnes_4 2 2 rfl rfl ?_
    refine r_aload_n C dX0_tippedOnes_5 0 0 rfl rfl ?_
    refine gf_X0_38 (v := (σ 1)) C hj dX0_tippedOnes_6 (sR_at _ _ _ _) ?_
    refine r_ic_ge (tgt := 35) C dX0_tippedOnes_9 (by decide) (fun c1 => ?_) (fun c1 => ?_)
    · refine r_iload_n C dX0_tippedOnes_35 1 1 rfl rfl ?_
      exact r_iret C dX0_tippedOnes_36 rfl
    · refine r_iload_n C dX0_tippedOnes_12 1 1 rfl rfl ?_
      refine r_aload_n C dX0_tippedOnes_13 0 0 rfl rfl ?_
      refine gf_X0_24 C hj dX0_tippedOnes_14 ?_
      refine r_iload_n C dX0_tippedOnes_17 2 2 rfl rfl ?_
      refine r_guard (fun h2 => ?_)
      refine ald_I5 (v := (σ (10 + 4 * ix x2))) C hj h2 (sR_at _ _ _ _) dX0_tippedOnes_18 ?_
      refine r_sel (tj := 27) (sj := [.int (if (σ (10 + 4 * ix x2)) = 0 then 0 else 1 : Int32), .int x1]) ?_ (fun k4 => ?_)
      · refine r_iadd C dX0_tippedOnes_27 ?_
        refine r_istore_n (lv' := [(1, .int (x1 + (if (σ (10 + 4 * ix x2)) = 0 then 0 else 1 : Int32))), (0, .ref (zA Z j 0)), (2, .int x2)]) C dX0_tippedOnes_28 1 rfl (by decide) rfl ?_
        refine r_iinc (v := (x2 + 1)) (lv' := [(2, .int (x2 + 1)), (1, .int (x1 + (if (σ (10 + 4 * ix x2)) = 0 then 0 else 1 : Int32))), (0, .ref (zA Z j 0))]) C dX0_tippedOnes_29 2 rfl rfl (by decide) rfl ?_
        refine r_goto (tgt := 4) C dX0_tippedOnes_32 (by decide) ?_
        refine r_lv [2, 1, 0] (lv' := [(0, .ref (zA Z j 0)), (1, .int (x1 + (if (σ (10 + 4 * ix x2)) = 0 then 0 else 1 : Int32))), (2, .int (x2 + 1))]) rfl ?_
        exact ih (x1 + (if (σ (10 + 4 * ix x2)) = 0 then 0 else 1 : Int32)) (x2 + 1)
      · refine r_same (P := (σ (10 + 4 * ix x2)) = 0) ?_
        refine r_if_eq (tgt := 26) C dX0_tippedOnes_19 (by decide) (fun c3 => ?_) (fun c3 => ?_)
        · refine r_iconst (v := 0) C dX0_tippedOnes_26 (by decide) ?_
          exact r_stk (if_pos c3) k4
        · refine r_iconst (v := 1) C dX0_tippedOnes_22 (by decide) ?_
          refine r_goto (tgt := 27) C dX0_tippedOnes_23 (by decide) ?_
          exact r_stk (if_neg c3) k4
noncomputable def fX0_tippedOnes (σ : Nat → Int32)   : Option (Int32) := (fX0_tippedOnes_4 σ fu 0 0)
theorem bX0_tippedOnes {Z : Zt} {E : Ec} {M0 : Mi} {σ : Nat → Int32} {N : Ml} {j : Nat} (C : Ok 1 Z E cX0_tippedOnes 3 RX0 (some .int) 0) (hj : j < 4)     : GT Z E 3 (finX0_tippedOnes M0 σ N j) 0 [(0, .ref (zA Z j 0))] [] (sR M0 j σ) N (fX0_tippedOnes σ ) := by
  unfold fX0_tippedOnes
  refine r_iconst (v := 0) C dX0_tippedOnes_0 (by decide) ?_
  refine r_istore_n (lv' := [(1, .int 0), (0, .ref (zA Z j 0))]) C dX0_tippedOnes_1 1 rfl (by decide) rfl ?_
  refine r_iconst (v := 0) C dX0_tippedOnes_2 (by decide) ?_
  refine r_istore_n (lv' := [(2, .int 0), (1, .int 0), (0, .ref (zA Z j 0))]) C dX0_tippedOnes_3 2 rfl (by decide) rfl ?_
  refine r_lv [2, 1, 0] (lv' := [(0, .ref (zA Z j 0)), (1, .int 0), (2, .int 0)]) rfl ?_
  exact bX0_tippedOnes_4 C hj fu 0 0
theorem mX0_tippedOnes (l : Launch) {Z : Zt} (hZ : Zok 1 Z) {j : Nat} (hj : j < 4) (M0 : Mi) (N : Ml) (σ : Nat → Int32) (b : Int32) (hb : fX0_tippedOnes σ = some b) : Ct 1 Z l yX0_tippedOnes cX0_tippedOnes 3 (some .int) 0 [.ref (zA Z j 0)] (sR M0 j σ) N (some (Value.int b), sR M0 j σ, N) :=
  metG (fin := (finX0_tippedOnes M0 σ N j)) (by decide) (Nat.le_of_ble_eq_true rfl) (fun E _ C => bX0_tippedOnes C hj) hb
theorem dX0_aimOfLaw_0 : decode cX0_aimOfLaw 0 = .ok (.iload_n 1, 1) := by decide +kernel
theorem dX0_aimOfLaw_1 : decode cX0_aimOfLaw 1 = .ok (.bipush 10, 2) := by decide +kernel
theorem dX0_aimOfLaw_3 : decode cX0_aimOfLaw 3 = .ok (.if_icmp .lt 18, 3) := by decide +kernel
theorem dX0_aimOfLaw_6 : decode cX0_aimOfLaw 6 = .ok (.iload_n 1, 1) := by decide +kernel
theorem dX0_aimOfLaw_7 : decode cX0_aimOfLaw 7 = .ok (.bipush 15, 2) := by decide +kernel
theorem dX0_aimOfLaw_9 : decode cX0_aimOfLaw 9 = .ok (.if_icmp .gt 12, 3) := by decide +kernel
theorem dX0_aimOfLaw_12 : decode cX0_aimOfLaw 12 = .ok (.aload_n 0, 1) := by decide +kernel
theorem dX0_aimOfLaw_13 : decode cX0_aimOfLaw 13 = .ok (.getfield 9, 3) := by decide +kernel
theorem dX0_aimOfLaw_16 : decode cX0_aimOfLaw 16 = .ok (.iconst 1, 1) := by decide +kernel
theorem dX0_aimOfLaw_17 : decode cX0_aimOfLaw 17 = .ok (.iaload, 1) := by decide +kernel
theorem dX0_aimOfLaw_18 : decode cX0_aimOfLaw 18 = .ok (.goto 9, 3) := by decide +kernel
theorem dX0_aimOfLaw_21 : decode cX0_aimOfLaw 21 = .ok (.aload_n 0, 1) := by decide +kernel
theorem dX0_aimOfLaw_22 : decode cX0_aimOfLaw 22 = .ok (.getfield 9, 3) := by decide +kernel
theorem dX0_aimOfLaw_25 : decode cX0_aimOfLaw 25 = .ok (.iconst 0, 1) := by decide +kernel
theorem dX0_aimOfLaw_26 : decode cX0_aimOfLaw 26 = .ok (.iaload, 1) := by decide +kernel
theorem dX0_aimOfLaw_27 : decode cX0_aimOfLaw 27 = .ok (.ireturn, 1) := by decide +kernel
def finX0_aimOfLaw (M0 : Mi) (σ : Nat → Int32) (N : Ml) (j : Nat) : Int32 → Option Value × Mi × Ml := fun b => (some (Value.int b), sR M0 j σ, N)
noncomputable def fX0_aimOfLaw (σ : Nat → Int32)  (x1 : Int32) : Int32 := (if x1 < 10 then (σ 3) else (if 15 < x1 then (σ 3) else (σ 4)))
theorem bX0_aimOfLaw {Z : Zt} {E : Ec} {M0 : Mi} {σ : Nat → Int32} {N : Ml} {j : Nat} (C : Ok 1 Z E cX0_aimOfLaw 2 RX0 (some .int) 0) (hj : j < 4)   (x1 : Int32)  : GT Z E 2 (finX0_aimOfLaw M0 σ N j) 0 [(0, .ref (zA Z j 0)), (1, .int x1)] [] (sR M0 j σ) N (some (fX0_aimOfLaw σ x1)) := by
  unfold fX0_aimOfLaw
  refine r_iload_n C dX0_aimOfLaw_0 1 1 rfl rfl ?_
  refine r_bipush (v := 10) C dX0_aimOfLaw_1 (by decide) ?_
  refine r_st ?_
  refine r_ic_lt (tgt := 21) C dX0_aimOfLaw_3 (by decide) (fun c1 => ?_) (fun c1 => ?_)
  · refine r_aload_n C dX0_aimOfLaw_21 0 0 rfl rfl ?_
    refine gf_X0_9 C hj dX0_aimOfLaw_22 ?_
    refine r_iconst (v := 0) C dX0_aimOfLaw_25 (by decide) ?_
    refine ald_I1 (v := (σ 3)) C hj (by decide) (sR_at _ _ _ _) dX0_aimOfLaw_26 ?_
    exact r_iret C dX0_aimOfLaw_27 rfl
  · refine r_iload_n C dX0_aimOfLaw_6 1 1 rfl rfl ?_
    refine r_bipush (v := 15) C dX0_aimOfLaw_7 (by decide) ?_
    refine r_st ?_
    refine r_ic_gt (tgt := 21) C dX0_aimOfLaw_9 (by decide) (fun c2 => ?_) (fun c2 => ?_)
    · refine r_aload_n C dX0_aimOfLaw_21 0 0 rfl rfl ?_
      refine gf_X0_9 C hj dX0_aimOfLaw_22 ?_
      refine r_iconst (v := 0) C dX0_aimOfLaw_25 (by decide) ?_
      refine ald_I1 (v := (σ 3)) C hj (by decide) (sR_at _ _ _ _) dX0_aimOfLaw_26 ?_
      exact r_iret C dX0_aimOfLaw_27 rfl
    · refine r_aload_n C dX0_aimOfLaw_12 0 0 rfl rfl ?_
      refine gf_X0_9 C hj dX0_aimOfLaw_13 ?_
      refine r_iconst (v := 1) C dX0_aimOfLaw_16 (by decide) ?_
      refine ald_I1 (v := (σ 4)) C hj (by decide) (sR_at _ _ _ _) dX0_aimOfLaw_17 ?_
      refine r_goto (tgt := 27) C dX0_aimOfLaw_18 (by decide) ?_
      exact r_iret C dX0_aimOfLaw_27 rfl
theorem mX0_aimOfLaw (l : Launch) {Z : Zt} (hZ : Zok 1 Z) {j : Nat} (hj : j < 4) (M0 : Mi) (N : Ml) (σ : Nat → Int32) (x1 : Int32) : Ct 1 Z l yX0_aimOfLaw cX0_aimOfLaw 2 (some .int) 0 [.ref (zA Z j 0), .int x1] (sR M0 j σ) N (some (Value.int (fX0_aimOfLaw σ x1)), sR M0 j σ, N) :=
  metG (fin := (finX0_aimOfLaw M0 σ N j)) (by decide) (Nat.le_of_ble_eq_true rfl) (fun E _ C => bX0_aimOfLaw C hj x1) rfl
theorem dX0_aimOf_0 : decode cX0_aimOf 0 = .ok (.aload_n 0, 1) := by decide +kernel
theorem dX0_aimOf_1 : decode cX0_aimOf 1 = .ok (.invokevirtual 51, 3) := by decide +kernel
theorem dX0_aimOf_4 : decode cX0_aimOf 4 = .ok (.istore_n 2, 1) := by decide +kernel
theorem dX0_aimOf_5 : decode cX0_aimOf 5 = .ok (.aload_n 0, 1) := by decide +kernel
theorem dX0_aimOf_6 : decode cX0_aimOf 6 = .ok (.getfield 15, 3) := by decide +kernel
theorem dX0_aimOf_9 : decode cX0_aimOf 9 = .ok (.iload_n 1, 1) := by decide +kernel
theorem dX0_aimOf_10 : decode cX0_aimOf 10 = .ok (.iaload, 1) := by decide +kernel
theorem dX0_aimOf_11 : decode cX0_aimOf 11 = .ok (.tableswitch 104 2 5 #[29, 35, 59, 81], 29) := by decide +kernel
theorem dX0_aimOf_40 : decode cX0_aimOf 40 = .ok (.aload_n 0, 1) := by decide +kernel
theorem dX0_aimOf_41 : decode cX0_aimOf 41 = .ok (.iload_n 2, 1) := by decide +kernel
theorem dX0_aimOf_42 : decode cX0_aimOf 42 = .ok (.invokevirtual 55, 3) := by decide +kernel
theorem dX0_aimOf_45 : decode cX0_aimOf 45 = .ok (.ireturn, 1) := by decide +kernel
theorem dX0_aimOf_46 : decode cX0_aimOf 46 = .ok (.aload_n 0, 1) := by decide +kernel
theorem dX0_aimOf_47 : decode cX0_aimOf 47 = .ok (.iload_n 2, 1) := by decide +kernel
theorem dX0_aimOf_48 : decode cX0_aimOf 48 = .ok (.invokevirtual 58, 3) := by decide +kernel
theorem dX0_aimOf_51 : decode cX0_aimOf 51 = .ok (.ifCond .eq 12, 3) := by decide +kernel
theorem dX0_aimOf_54 : decode cX0_aimOf 54 = .ok (.aload_n 0, 1) := by decide +kernel
theorem dX0_aimOf_55 : decode cX0_aimOf 55 = .ok (.getfield 9, 3) := by decide +kernel
theorem dX0_aimOf_58 : decode cX0_aimOf 58 = .ok (.iconst 0, 1) := by decide +kernel
theorem dX0_aimOf_59 : decode cX0_aimOf 59 = .ok (.iaload, 1) := by decide +kernel
theorem dX0_aimOf_60 : decode cX0_aimOf 60 = .ok (.goto 9, 3) := by decide +kernel
theorem dX0_aimOf_63 : decode cX0_aimOf 63 = .ok (.aload_n 0, 1) := by decide +kernel
theorem dX0_aimOf_64 : decode cX0_aimOf 64 = .ok (.getfield 18, 3) := by decide +kernel
theorem dX0_aimOf_67 : decode cX0_aimOf 67 = .ok (.iload_n 1, 1) := by decide +kernel
theorem dX0_aimOf_68 : decode cX0_aimOf 68 = .ok (.iaload, 1) := by decide +kernel
theorem dX0_aimOf_69 : decode cX0_aimOf 69 = .ok (.ireturn, 1) := by decide +kernel
theorem dX0_aimOf_70 : decode cX0_aimOf 70 = .ok (.iload_n 2, 1) := by decide +kernel
theorem dX0_aimOf_71 : decode cX0_aimOf 71 = .ok (.bipush 20, 2) := by decide +kernel
theorem dX0_aimOf_73 : decode cX0_aimOf 73 = .ok (.if_icmp .lt 12, 3) := by decide +kernel
theorem dX0_aimOf_76 : decode cX0_aimOf 76 = .ok (.aload_n 0, 1) := by decide +kernel
theorem dX0_aimOf_77 : decode cX0_aimOf 77 = .ok (.getfield 9, 3) := by decide +kernel
theorem dX0_aimOf_80 : decode cX0_aimOf 80 = .ok (.iconst 2, 1) := by decide +kernel
theorem dX0_aimOf_81 : decode cX0_aimOf 81 = .ok (.iaload, 1) := by decide +kernel
theorem dX0_aimOf_82 : decode cX0_aimOf 82 = .ok (.goto 9, 3) := by decide +kernel
theorem dX0_aimOf_85 : decode cX0_aimOf 85 = .ok (.aload_n 0, 1) := by decide +kernel
theorem dX0_aimOf_86 : decode cX0_aimOf 86 = .ok (.getfield 9, 3) := by decide +kernel
theorem dX0_aimOf_89 : decode cX0_aimOf 89 = .ok (.iconst 0, 1) := by decide +kernel
theorem dX0_aimOf_90 : decode cX0_aimOf 90 = .ok (.iaload, 1) := by decide +kernel
theorem dX0_aimOf_91 : decode cX0_aimOf 91 = .ok (.ireturn, 1) := by decide +kernel
theorem dX0_aimOf_92 : decode cX0_aimOf 92 = .ok (.aload_n 0, 1) := by decide +kernel
theorem dX0_aimOf_93 : decode cX0_aimOf 93 = .ok (.iload_n 2, 1) := by decide +kernel
theorem dX0_aimOf_94 : decode cX0_aimOf 94 = .ok (.invokevirtual 58, 3) := by decide +kernel
theorem dX0_aimOf_97 : decode cX0_aimOf 97 = .ok (.ifCond .eq 12, 3) := by decide +kernel
theorem dX0_aimOf_100 : decode cX0_aimOf 100 = .ok (.aload_n 0, 1) := by decide +kernel
theorem dX0_aimOf_101 : decode cX0_aimOf 101 = .ok (.getfield 9, 3) := by decide +kernel
theorem dX0_aimOf_104 : decode cX0_aimOf 104 = .ok (.iconst 2, 1) := by decide +kernel
theorem dX0_aimOf_105 : decode cX0_aimOf 105 = .ok (.iaload, 1) := by decide +kernel
theorem dX0_aimOf_106 : decode cX0_aimOf 106 = .ok (.goto 8, 3) := by decide +kernel
theorem dX0_aimOf_109 : decode cX0_aimOf 109 = .ok (.aload_n 0, 1) := by decide +kernel
theorem dX0_aimOf_110 : decode cX0_aimOf 110 = .ok (.iload_n 2, 1) := by decide +kernel
theorem dX0_aimOf_111 : decode cX0_aimOf 111 = .ok (.invokevirtual 55, 3) := by decide +kernel
theorem dX0_aimOf_114 : decode cX0_aimOf 114 = .ok (.ireturn, 1) := by decide +kernel
theorem dX0_aimOf_115 : decode cX0_aimOf 115 = .ok (.aload_n 0, 1) := by decide +kernel
theorem dX0_aimOf_116 : decode cX0_aimOf 116 = .ok (.getfield 9, 3) := by decide +kernel
theorem dX0_aimOf_119 : decode cX0_aimOf 119 = .ok (.iconst 0, 1) := by decide +kernel
theorem dX0_aimOf_120 : decode cX0_aimOf 120 = .ok (.iaload, 1) := by decide +kernel
theorem dX0_aimOf_121 : decode cX0_aimOf 121 = .ok (.ireturn, 1) := by decide +kernel
def finX0_aimOf (M0 : Mi) (σ : Nat → Int32) (N : Ml) (j : Nat) : Int32 → Option Value × Mi × Ml := fun b => (some (Value.int b), sR M0 j σ, N)
noncomputable def fX0_aimOf (σ : Nat → Int32)  (x1 : Int32) : Option (Int32) := (if inb x1 8 then (if (σ (7 + 4 * ix x1)) = 2 then (some (fX0_aimOfLaw σ (fX0_clock σ))) else (if (σ (7 + 4 * ix x1)) = 3 then (if (fX0_rainsAt σ (fX0_clock σ)) = 0 then (some (σ (8 + 4 * ix x1))) else (some (σ 3))) else (if (σ (7 + 4 * ix x1)) = 4 then (if (fX0_clock σ) < 20 then (some (σ 3)) else (some (σ 5))) else (if (σ (7 + 4 * ix x1)) = 5 then (if (fX0_rainsAt σ (fX0_clock σ)) = 0 then (some (fX0_aimOfLaw σ (fX0_clock σ))) else (some (σ 5))) else (some (σ 3)))))) else none)
theorem bX0_aimOf {Z : Zt} {E : Ec} {M0 : Mi} {σ : Nat → Int32} {N : Ml} {j : Nat} (C : Ok 1 Z E cX0_aimOf 3 RX0 (some .int) 1) (hj : j < 4)   (x1 : Int32)  : GT Z E 3 (finX0_aimOf M0 σ N j) 0 [(0, .ref (zA Z j 0)), (1, .int x1)] [] (sR M0 j σ) N (fX0_aimOf σ x1) := by
  unfold fX0_aimOf
  refine r_aload_n C dX0_aimOf_0 0 0 rfl rfl ?_
  refine r_callV (rest := []) (st2 := [.int (fX0_clock σ)]) C (mX0_clock (eL E) C.z hj _ _ σ) lk_X0_51 (rvI C hj) (by decide) rfl rfl (Nat.le_of_ble_eq_true rfl) dX0_aimOf_1 rfl ?_
  refine r_istore_n (lv' := [(2, .int (fX0_clock σ)), (0, .ref (zA Z j 0)), (1, .int x1)]) C dX0_aimOf_4 2 rfl (by decide) rfl ?_
  refine r_aload_n C dX0_aimOf_5 0 1 rfl rfl ?_
  refine gf_X0_15 C hj dX0_aimOf_6 ?_
  refine r_iload_n C dX0_aimOf_9 1 2 rfl rfl ?_
  refine r_guard (fun h1 => ?_)
  refine ald_I2 (v := (σ (7 + 4 * ix x1))) C hj h1 (sR_at _ _ _ _) dX0_aimOf_10 ?_
  refine r_tsw (k := 2) (tgt := 40) C dX0_aimOf_11 (by decide) (by decide) rfl (by decide) (fun c2 => ?_) (fun c2 => ?_)
  · refine r_aload_n C dX0_aimOf_40 0 1 rfl rfl ?_
    refine r_iload_n C dX0_aimOf_41 2 0 rfl rfl ?_
    refine r_callV (rest := []) (st2 := [.int (fX0_aimOfLaw σ (fX0_clock σ))]) C (mX0_aimOfLaw (eL E) C.z hj _ _ σ (fX0_clock σ)) lk_X0_55 (rvI C hj) (by decide) rfl rfl (Nat.le_of_ble_eq_true rfl) dX0_aimOf_42 rfl ?_
    exact r_iret C dX0_aimOf_45 rfl
  · skip
    refine r_tsw (k := 3) (tgt := 46) C dX0_aimOf_11 (by decide) (by decide) rfl (by decide) (fun c3 => ?_) (fun c3 => ?_)
    · refine r_aload_n C dX0_aimOf_46 0 1 rfl rfl ?_
      refine r_iload_n C dX0_aimOf_47 2 0 rfl rfl ?_
      refine r_callV (rest := []) (st2 := [.int (fX0_rainsAt σ (fX0_clock σ))]) C (mX0_rainsAt (eL E) C.z hj _ _ σ (fX0_clock σ)) lk_X0_58 (rvI C hj) (by decide) rfl rfl (Nat.le_of_ble_eq_true rfl) dX0_aimOf_48 rfl ?_
      refine r_if_eq (tgt := 63) C dX0_aimOf_51 (by decide) (fun c4 => ?_) (fun c4 => ?_)
      · refine r_aload_n C dX0_aimOf_63 0 1 rfl rfl ?_
        refine gf_X0_18 C hj dX0_aimOf_64 ?_
        refine r_iload_n C dX0_aimOf_67 1 2 rfl rfl ?_
        refine ald_I3 (v := (σ (8 + 4 * ix x1))) C hj h1 (sR_at _ _ _ _) dX0_aimOf_68 ?_
        exact r_iret C dX0_aimOf_69 rfl
      · refine r_aload_n C dX0_aimOf_54 0 1 rfl rfl ?_
        refine gf_X0_9 C hj dX0_aimOf_55 ?_
        refine r_iconst (v := 0) C dX0_aimOf_58 (by decide) ?_
        refine ald_I1 (v := (σ 3)) C hj (by decide) (sR_at _ _ _ _) dX0_aimOf_59 ?_
        refine r_goto (tgt := 69) C dX0_aimOf_60 (by decide) ?_
        exact r_iret C dX0_aimOf_69 rfl
    · skip
      refine r_tsw (k := 4) (tgt := 70) C dX0_aimOf_11 (by decide) (by decide) rfl (by decide) (fun c5 => ?_) (fun c5 => ?_)
      · refine r_iload_n C dX0_aimOf_70 2 0 rfl rfl ?_
        refine r_bipush (v := 20) C dX0_aimOf_71 (by decide) ?_
        refine r_ic_lt (tgt := 85) C dX0_aimOf_73 (by decide) (fun c6 => ?_) (fun c6 => ?_)
        · refine r_aload_n C dX0_aimOf_85 0 1 rfl rfl ?_
          refine gf_X0_9 C hj dX0_aimOf_86 ?_
          refine r_iconst (v := 0) C dX0_aimOf_89 (by decide) ?_
          refine ald_I1 (v := (σ 3)) C hj (by decide) (sR_at _ _ _ _) dX0_aimOf_90 ?_
          exact r_iret C dX0_aimOf_91 rfl
        · refine r_aload_n C dX0_aimOf_76 0 1 rfl rfl ?_
          refine gf_X0_9 C hj dX0_aimOf_77 ?_
          refine r_iconst (v := 2) C dX0_aimOf_80 (by decide) ?_
          refine ald_I1 (v := (σ 5)) C hj (by decide) (sR_at _ _ _ _) dX0_aimOf_81 ?_
          refine r_goto (tgt := 91) C dX0_aimOf_82 (by decide) ?_
          exact r_iret C dX0_aimOf_91 rfl
      · skip
        refine r_tsw (k := 5) (tgt := 92) C dX0_aimOf_11 (by decide) (by decide) rfl (by decide) (fun c7 => ?_) (fun c7 => ?_)
        · refine r_aload_n C dX0_aimOf_92 0 1 rfl rfl ?_
          refine r_iload_n C dX0_aimOf_93 2 0 rfl rfl ?_
          refine r_callV (rest := []) (st2 := [.int (fX0_rainsAt σ (fX0_clock σ))]) C (mX0_rainsAt (eL E) C.z hj _ _ σ (fX0_clock σ)) lk_X0_58 (rvI C hj) (by decide) rfl rfl (Nat.le_of_ble_eq_true rfl) dX0_aimOf_94 rfl ?_
          refine r_if_eq (tgt := 109) C dX0_aimOf_97 (by decide) (fun c8 => ?_) (fun c8 => ?_)
          · refine r_aload_n C dX0_aimOf_109 0 1 rfl rfl ?_
            refine r_iload_n C dX0_aimOf_110 2 0 rfl rfl ?_
            refine r_callV (rest := []) (st2 := [.int (fX0_aimOfLaw σ (fX0_clock σ))]) C (mX0_aimOfLaw (eL E) C.z hj _ _ σ (fX0_clock σ)) lk_X0_55 (rvI C hj) (by decide) rfl rfl (Nat.le_of_ble_eq_true rfl) dX0_aimOf_111 rfl ?_
            exact r_iret C dX0_aimOf_114 rfl
          · refine r_aload_n C dX0_aimOf_100 0 1 rfl rfl ?_
            refine gf_X0_9 C hj dX0_aimOf_101 ?_
            refine r_iconst (v := 2) C dX0_aimOf_104 (by decide) ?_
            refine ald_I1 (v := (σ 5)) C hj (by decide) (sR_at _ _ _ _) dX0_aimOf_105 ?_
            refine r_goto (tgt := 114) C dX0_aimOf_106 (by decide) ?_
            exact r_iret C dX0_aimOf_114 rfl
        · skip
          refine r_tswd (tgt := 115) C dX0_aimOf_11 (sw_out (lo := 2) (hi := 5) (n := 4) (σ (7 + 4 * ix x1)) [2, 3, 4, 5] (by decide) rfl (List.forall_mem_cons.mpr ⟨c2, List.forall_mem_cons.mpr ⟨c3, List.forall_mem_cons.mpr ⟨c5, List.forall_mem_cons.mpr ⟨c7, fun _ h => absurd h List.not_mem_nil⟩⟩⟩⟩)) (by decide) ?_
          refine r_aload_n C dX0_aimOf_115 0 1 rfl rfl ?_
          refine gf_X0_9 C hj dX0_aimOf_116 ?_
          refine r_iconst (v := 0) C dX0_aimOf_119 (by decide) ?_
          refine ald_I1 (v := (σ 3)) C hj (by decide) (sR_at _ _ _ _) dX0_aimOf_120 ?_
          exact r_iret C dX0_aimOf_121 rfl
theorem mX0_aimOf (l : Launch) {Z : Zt} (hZ : Zok 1 Z) {j : Nat} (hj : j < 4) (M0 : Mi) (N : Ml) (σ : Nat → Int32) (x1 : Int32) (b : Int32) (hb : fX0_aimOf σ x1 = some b) : Ct 1 Z l yX0_aimOf cX0_aimOf 3 (some .int) 1 [.ref (zA Z j 0), .int x1] (sR M0 j σ) N (some (Value.int b), sR M0 j σ, N) :=
  metG (fin := (finX0_aimOf M0 σ N j)) (by decide) (Nat.le_of_ble_eq_true rfl) (fun E _ C => bX0_aimOf C hj x1) hb
theorem dX0_paceOf_0 : decode cX0_paceOf 0 = .ok (.aload_n 0, 1) := by decide +kernel
theorem dX0_paceOf_1 : decode cX0_paceOf 1 = .ok (.getfield 15, 3) := by decide +kernel
theorem dX0_paceOf_4 : decode cX0_paceOf 4 = .ok (.iload_n 1, 1) := by decide +kernel
theorem dX0_paceOf_5 : decode cX0_paceOf 5 = .ok (.iaload, 1) := by decide +kernel
theorem dX0_paceOf_6 : decode cX0_paceOf 6 = .ok (.tableswitch 49 1 4 #[30, 49, 34, 32], 30) := by decide +kernel
theorem dX0_paceOf_36 : decode cX0_paceOf 36 = .ok (.iconst 2, 1) := by decide +kernel
theorem dX0_paceOf_37 : decode cX0_paceOf 37 = .ok (.ireturn, 1) := by decide +kernel
theorem dX0_paceOf_38 : decode cX0_paceOf 38 = .ok (.iconst 3, 1) := by decide +kernel
theorem dX0_paceOf_39 : decode cX0_paceOf 39 = .ok (.ireturn, 1) := by decide +kernel
theorem dX0_paceOf_40 : decode cX0_paceOf 40 = .ok (.aload_n 0, 1) := by decide +kernel
theorem dX0_paceOf_41 : decode cX0_paceOf 41 = .ok (.invokevirtual 51, 3) := by decide +kernel
theorem dX0_paceOf_44 : decode cX0_paceOf 44 = .ok (.iconst 2, 1) := by decide +kernel
theorem dX0_paceOf_45 : decode cX0_paceOf 45 = .ok (.irem, 1) := by decide +kernel
theorem dX0_paceOf_46 : decode cX0_paceOf 46 = .ok (.ifCond .ne 7, 3) := by decide +kernel
theorem dX0_paceOf_49 : decode cX0_paceOf 49 = .ok (.iconst 1, 1) := by decide +kernel
theorem dX0_paceOf_50 : decode cX0_paceOf 50 = .ok (.goto 4, 3) := by decide +kernel
theorem dX0_paceOf_53 : decode cX0_paceOf 53 = .ok (.iconst 0, 1) := by decide +kernel
theorem dX0_paceOf_54 : decode cX0_paceOf 54 = .ok (.ireturn, 1) := by decide +kernel
theorem dX0_paceOf_55 : decode cX0_paceOf 55 = .ok (.iconst 1, 1) := by decide +kernel
theorem dX0_paceOf_56 : decode cX0_paceOf 56 = .ok (.ireturn, 1) := by decide +kernel
def finX0_paceOf (M0 : Mi) (σ : Nat → Int32) (N : Ml) (j : Nat) : Int32 → Option Value × Mi × Ml := fun b => (some (Value.int b), sR M0 j σ, N)
noncomputable def fX0_paceOf (σ : Nat → Int32)  (x1 : Int32) : Option (Int32) := (if inb x1 8 then (if (σ (7 + 4 * ix x1)) = 1 then (some 2) else (if (σ (7 + 4 * ix x1)) = 2 then (some 1) else (if (σ (7 + 4 * ix x1)) = 3 then (if ((fX0_clock σ) - (fX0_clock σ) / 2 * 2) = 0 then (some 1) else (some 0)) else (if (σ (7 + 4 * ix x1)) = 4 then (some 3) else (some 1))))) else none)
theorem bX0_paceOf {Z : Zt} {E : Ec} {M0 : Mi} {σ : Nat → Int32} {N : Ml} {j : Nat} (C : Ok 1 Z E cX0_paceOf 2 RX0 (some .int) 1) (hj : j < 4)   (x1 : Int32)  : GT Z E 2 (finX0_paceOf M0 σ N j) 0 [(0, .ref (zA Z j 0)), (1, .int x1)] [] (sR M0 j σ) N (fX0_paceOf σ x1) := by
  unfold fX0_paceOf
  refine r_aload_n C dX0_paceOf_0 0 0 rfl rfl ?_
  refine gf_X0_15 C hj dX0_paceOf_1 ?_
  refine r_iload_n C dX0_paceOf_4 1 1 rfl rfl ?_
  refine r_guard (fun h1 => ?_)
  refine ald_I2 (v := (σ (7 + 4 * ix x1))) C hj h1 (sR_at _ _ _ _) dX0_paceOf_5 ?_
  refine r_tsw (k := 1) (tgt := 36) C dX0_paceOf_6 (by decide) (by decide) rfl (by decide) (fun c2 => ?_) (fun c2 => ?_)
  · refine r_iconst (v := 2) C dX0_paceOf_36 (by decide) ?_
    exact r_iret C dX0_paceOf_37 rfl
  · skip
    refine r_tsw (k := 2) (tgt := 55) C dX0_paceOf_6 (by decide) (by decide) rfl (by decide) (fun c3 => ?_) (fun c3 => ?_)
    · refine r_iconst (v := 1) C dX0_paceOf_55 (by decide) ?_
      exact r_iret C dX0_paceOf_56 rfl
    · skip
      refine r_tsw (k := 3) (tgt := 40) C dX0_paceOf_6 (by decide) (by decide) rfl (by decide) (fun c4 => ?_) (fun c4 => ?_)
      · refine r_aload_n C dX0_paceOf_40 0 0 rfl rfl ?_
        refine r_callV (rest := []) (st2 := [.int (fX0_clock σ)]) C (mX0_clock (eL E) C.z hj _ _ σ) lk_X0_51 (rvI C hj) (by decide) rfl rfl (Nat.le_of_ble_eq_true rfl) dX0_paceOf_41 rfl ?_
        refine r_iconst (v := 2) C dX0_paceOf_44 (by decide) ?_
        refine r_irem C dX0_paceOf_45 (by decide) ?_
        refine r_if_ne (tgt := 53) C dX0_paceOf_46 (by decide) (fun c5 => ?_) (fun c5 => ?_)
        · refine r_iconst (v := 0) C dX0_paceOf_53 (by decide) ?_
          exact r_iret C dX0_paceOf_54 rfl
        · refine r_iconst (v := 1) C dX0_paceOf_49 (by decide) ?_
          refine r_goto (tgt := 54) C dX0_paceOf_50 (by decide) ?_
          exact r_iret C dX0_paceOf_54 rfl
      · skip
        refine r_tsw (k := 4) (tgt := 38) C dX0_paceOf_6 (by decide) (by decide) rfl (by decide) (fun c6 => ?_) (fun c6 => ?_)
        · refine r_iconst (v := 3) C dX0_paceOf_38 (by decide) ?_
          exact r_iret C dX0_paceOf_39 rfl
        · skip
          refine r_tswd (tgt := 55) C dX0_paceOf_6 (sw_out (lo := 1) (hi := 4) (n := 4) (σ (7 + 4 * ix x1)) [1, 2, 3, 4] (by decide) rfl (List.forall_mem_cons.mpr ⟨c2, List.forall_mem_cons.mpr ⟨c3, List.forall_mem_cons.mpr ⟨c4, List.forall_mem_cons.mpr ⟨c6, fun _ h => absurd h List.not_mem_nil⟩⟩⟩⟩)) (by decide) ?_
          refine r_iconst (v := 1) C dX0_paceOf_55 (by decide) ?_
          exact r_iret C dX0_paceOf_56 rfl
theorem mX0_paceOf (l : Launch) {Z : Zt} (hZ : Zok 1 Z) {j : Nat} (hj : j < 4) (M0 : Mi) (N : Ml) (σ : Nat → Int32) (x1 : Int32) (b : Int32) (hb : fX0_paceOf σ x1 = some b) : Ct 1 Z l yX0_paceOf cX0_paceOf 2 (some .int) 1 [.ref (zA Z j 0), .int x1] (sR M0 j σ) N (some (Value.int b), sR M0 j σ, N) :=
  metG (fin := (finX0_paceOf M0 σ N j)) (by decide) (Nat.le_of_ble_eq_true rfl) (fun E _ C => bX0_paceOf C hj x1) hb
theorem dX0_stepFrom_0 : decode cX0_stepFrom 0 = .ok (.iload_n 2, 1) := by decide +kernel
theorem dX0_stepFrom_1 : decode cX0_stepFrom 1 = .ok (.bipush 6, 2) := by decide +kernel
theorem dX0_stepFrom_3 : decode cX0_stepFrom 3 = .ok (.idiv, 1) := by decide +kernel
theorem dX0_stepFrom_4 : decode cX0_stepFrom 4 = .ok (.iload_n 1, 1) := by decide +kernel
theorem dX0_stepFrom_5 : decode cX0_stepFrom 5 = .ok (.bipush 6, 2) := by decide +kernel
theorem dX0_stepFrom_7 : decode cX0_stepFrom 7 = .ok (.idiv, 1) := by decide +kernel
theorem dX0_stepFrom_8 : decode cX0_stepFrom 8 = .ok (.isub, 1) := by decide +kernel
theorem dX0_stepFrom_9 : decode cX0_stepFrom 9 = .ok (.istore_n 3, 1) := by decide +kernel
theorem dX0_stepFrom_10 : decode cX0_stepFrom 10 = .ok (.iload_n 3, 1) := by decide +kernel
theorem dX0_stepFrom_11 : decode cX0_stepFrom 11 = .ok (.ifCond .eq 32, 3) := by decide +kernel
theorem dX0_stepFrom_14 : decode cX0_stepFrom 14 = .ok (.iload_n 3, 1) := by decide +kernel
theorem dX0_stepFrom_15 : decode cX0_stepFrom 15 = .ok (.ifCond .le 10, 3) := by decide +kernel
theorem dX0_stepFrom_18 : decode cX0_stepFrom 18 = .ok (.iload_n 1, 1) := by decide +kernel
theorem dX0_stepFrom_19 : decode cX0_stepFrom 19 = .ok (.bipush 6, 2) := by decide +kernel
theorem dX0_stepFrom_21 : decode cX0_stepFrom 21 = .ok (.iadd, 1) := by decide +kernel
theorem dX0_stepFrom_22 : decode cX0_stepFrom 22 = .ok (.goto 7, 3) := by decide +kernel
theorem dX0_stepFrom_25 : decode cX0_stepFrom 25 = .ok (.iload_n 1, 1) := by decide +kernel
theorem dX0_stepFrom_26 : decode cX0_stepFrom 26 = .ok (.bipush 6, 2) := by decide +kernel
theorem dX0_stepFrom_28 : decode cX0_stepFrom 28 = .ok (.isub, 1) := by decide +kernel
theorem dX0_stepFrom_29 : decode cX0_stepFrom 29 = .ok (.istore 4, 2) := by decide +kernel
theorem dX0_stepFrom_31 : decode cX0_stepFrom 31 = .ok (.aload_n 0, 1) := by decide +kernel
theorem dX0_stepFrom_32 : decode cX0_stepFrom 32 = .ok (.iload 4, 2) := by decide +kernel
theorem dX0_stepFrom_34 : decode cX0_stepFrom 34 = .ok (.invokevirtual 82, 3) := by decide +kernel
theorem dX0_stepFrom_37 : decode cX0_stepFrom 37 = .ok (.ifCond .ne 6, 3) := by decide +kernel
theorem dX0_stepFrom_40 : decode cX0_stepFrom 40 = .ok (.iload 4, 2) := by decide +kernel
theorem dX0_stepFrom_42 : decode cX0_stepFrom 42 = .ok (.ireturn, 1) := by decide +kernel
theorem dX0_stepFrom_43 : decode cX0_stepFrom 43 = .ok (.iload_n 2, 1) := by decide +kernel
theorem dX0_stepFrom_44 : decode cX0_stepFrom 44 = .ok (.bipush 6, 2) := by decide +kernel
theorem dX0_stepFrom_46 : decode cX0_stepFrom 46 = .ok (.irem, 1) := by decide +kernel
theorem dX0_stepFrom_47 : decode cX0_stepFrom 47 = .ok (.iload_n 1, 1) := by decide +kernel
theorem dX0_stepFrom_48 : decode cX0_stepFrom 48 = .ok (.bipush 6, 2) := by decide +kernel
theorem dX0_stepFrom_50 : decode cX0_stepFrom 50 = .ok (.irem, 1) := by decide +kernel
theorem dX0_stepFrom_51 : decode cX0_stepFrom 51 = .ok (.isub, 1) := by decide +kernel
theorem dX0_stepFrom_52 : decode cX0_stepFrom 52 = .ok (.istore 4, 2) := by decide +kernel
theorem dX0_stepFrom_54 : decode cX0_stepFrom 54 = .ok (.iload 4, 2) := by decide +kernel
theorem dX0_stepFrom_56 : decode cX0_stepFrom 56 = .ok (.ifCond .eq 31, 3) := by decide +kernel
theorem dX0_stepFrom_59 : decode cX0_stepFrom 59 = .ok (.iload 4, 2) := by decide +kernel
theorem dX0_stepFrom_61 : decode cX0_stepFrom 61 = .ok (.ifCond .le 9, 3) := by decide +kernel
theorem dX0_stepFrom_64 : decode cX0_stepFrom 64 = .ok (.iload_n 1, 1) := by decide +kernel
theorem dX0_stepFrom_65 : decode cX0_stepFrom 65 = .ok (.iconst 1, 1) := by decide +kernel
theorem dX0_stepFrom_66 : decode cX0_stepFrom 66 = .ok (.iadd, 1) := by decide +kernel
theorem dX0_stepFrom_67 : decode cX0_stepFrom 67 = .ok (.goto 6, 3) := by decide +kernel
theorem dX0_stepFrom_70 : decode cX0_stepFrom 70 = .ok (.iload_n 1, 1) := by decide +kernel
theorem dX0_stepFrom_71 : decode cX0_stepFrom 71 = .ok (.iconst 1, 1) := by decide +kernel
theorem dX0_stepFrom_72 : decode cX0_stepFrom 72 = .ok (.isub, 1) := by decide +kernel
theorem dX0_stepFrom_73 : decode cX0_stepFrom 73 = .ok (.istore 5, 2) := by decide +kernel
theorem dX0_stepFrom_75 : decode cX0_stepFrom 75 = .ok (.aload_n 0, 1) := by decide +kernel
theorem dX0_stepFrom_76 : decode cX0_stepFrom 76 = .ok (.iload 5, 2) := by decide +kernel
theorem dX0_stepFrom_78 : decode cX0_stepFrom 78 = .ok (.invokevirtual 82, 3) := by decide +kernel
theorem dX0_stepFrom_81 : decode cX0_stepFrom 81 = .ok (.ifCond .ne 6, 3) := by decide +kernel
theorem dX0_stepFrom_84 : decode cX0_stepFrom 84 = .ok (.iload 5, 2) := by decide +kernel
theorem dX0_stepFrom_86 : decode cX0_stepFrom 86 = .ok (.ireturn, 1) := by decide +kernel
theorem dX0_stepFrom_87 : decode cX0_stepFrom 87 = .ok (.iload_n 1, 1) := by decide +kernel
theorem dX0_stepFrom_88 : decode cX0_stepFrom 88 = .ok (.ireturn, 1) := by decide +kernel
def finX0_stepFrom (M0 : Mi) (σ : Nat → Int32) (N : Ml) (j : Nat) : Int32 → Option Value × Mi × Ml := fun b => (some (Value.int b), sR M0 j σ, N)
noncomputable def fX0_stepFrom_73 (σ : Nat → Int32)  (x1 : Int32) (s0 : Int32) : Int32 := (if (fX0_isFenced σ s0) = 0 then s0 else x1)
theorem bX0_stepFrom_73 {Z : Zt} {E : Ec} {M0 : Mi} {σ : Nat → Int32} {N : Ml} {j : Nat} (C : Ok 1 Z E cX0_stepFrom 6 RX0 (some .int) 1) (hj : j < 4)   (x1 : Int32) (s0 : Int32)  : GT Z E 6 (finX0_stepFrom M0 σ N j) 73 [(0, .ref (zA Z j 0)), (1, .int x1)] [.int s0] (sR M0 j σ) N (some (fX0_stepFrom_73 σ x1 s0)) := by
  unfold fX0_stepFrom_73
  refine r_istore (lv' := [(5, .int s0), (0, .ref (zA Z j 0)), (1, .int x1)]) C dX0_stepFrom_73 (by decide) rfl ?_
  refine r_aload_n C dX0_stepFrom_75 0 1 rfl rfl ?_
  refine r_iload C dX0_stepFrom_76 0 rfl ?_
  refine r_callV (rest := []) (st2 := [.int (fX0_isFenced σ s0)]) C (mX0_isFenced (eL E) C.z hj _ _ σ s0) lk_X0_82 (rvI C hj) (by decide) rfl rfl (Nat.le_of_ble_eq_true rfl) dX0_stepFrom_78 rfl ?_
  refine r_st ?_
  refine r_if_ne (tgt := 87) C dX0_stepFrom_81 (by decide) (fun c5 => ?_) (fun c5 => ?_)
  · refine r_iload_n C dX0_stepFrom_87 1 2 rfl rfl ?_
    exact r_iret C dX0_stepFrom_88 rfl
  · refine r_iload C dX0_stepFrom_84 0 rfl ?_
    exact r_iret C dX0_stepFrom_86 rfl
noncomputable def fX0_stepFrom_43 (σ : Nat → Int32)  (x1 : Int32) (x2 : Int32) : Int32 := (if ((x2 - x2 / 6 * 6) - (x1 - x1 / 6 * 6)) = 0 then x1 else (fX0_stepFrom_73 σ x1 (if ((x2 - x2 / 6 * 6) - (x1 - x1 / 6 * 6)) ≤ 0 then (x1 - 1) else (x1 + 1) : Int32)))
theorem bX0_stepFrom_43 {Z : Zt} {E : Ec} {M0 : Mi} {σ : Nat → Int32} {N : Ml} {j : Nat} (C : Ok 1 Z E cX0_stepFrom 6 RX0 (some .int) 1) (hj : j < 4)   (x1 : Int32) (x2 : Int32)  : GT Z E 6 (finX0_stepFrom M0 σ N j) 43 [(0, .ref (zA Z j 0)), (1, .int x1), (2, .int x2)] [] (sR M0 j σ) N (some (fX0_stepFrom_43 σ x1 x2)) := by
  unfold fX0_stepFrom_43
  refine r_iload_n C dX0_stepFrom_43 2 2 rfl rfl ?_
  refine r_bipush (v := 6) C dX0_stepFrom_44 (by decide) ?_
  refine r_irem C dX0_stepFrom_46 (by decide) ?_
  refine r_iload_n C dX0_stepFrom_47 1 1 rfl rfl ?_
  refine r_bipush (v := 6) C dX0_stepFrom_48 (by decide) ?_
  refine r_irem C dX0_stepFrom_50 (by decide) ?_
  refine r_isub C dX0_stepFrom_51 ?_
  refine r_istore (lv' := [(4, .int ((x2 - x2 / 6 * 6) - (x1 - x1 / 6 * 6))), (0, .ref (zA Z j 0)), (1, .int x1), (2, .int x2)]) C dX0_stepFrom_52 (by decide) rfl ?_
  refine r_iload C dX0_stepFrom_54 0 rfl ?_
  refine r_st ?_
  refine r_if_eq (tgt := 87) C dX0_stepFrom_56 (by decide) (fun c2 => ?_) (fun c2 => ?_)
  · refine r_iload_n C dX0_stepFrom_87 1 2 rfl rfl ?_
    exact r_iret C dX0_stepFrom_88 rfl
  · refine r_iload C dX0_stepFrom_59 0 rfl ?_
    refine r_sel (tj := 73) (sj := [.int (if ((x2 - x2 / 6 * 6) - (x1 - x1 / 6 * 6)) ≤ 0 then (x1 - 1) else (x1 + 1) : Int32)]) ?_ (fun k4 => ?_)
    · refine r_lv [1, 2] (lv' := [(0, .ref (zA Z j 0)), (1, .int x1)]) rfl ?_
      exact bX0_stepFrom_73 C hj x1 (if ((x2 - x2 / 6 * 6) - (x1 - x1 / 6 * 6)) ≤ 0 then (x1 - 1) else (x1 + 1) : Int32)
    · refine r_same (P := ((x2 - x2 / 6 * 6) - (x1 - x1 / 6 * 6)) ≤ 0) ?_
      refine r_if_le (tgt := 70) C dX0_stepFrom_61 (by decide) (fun c3 => ?_) (fun c3 => ?_)
      · refine r_iload_n C dX0_stepFrom_70 1 2 rfl rfl ?_
        refine r_iconst (v := 1) C dX0_stepFrom_71 (by decide) ?_
        refine r_isub C dX0_stepFrom_72 ?_
        exact r_stk (if_pos c3) k4
      · refine r_iload_n C dX0_stepFrom_64 1 2 rfl rfl ?_
        refine r_iconst (v := 1) C dX0_stepFrom_65 (by decide) ?_
        refine r_iadd C dX0_stepFrom_66 ?_
        refine r_goto (tgt := 73) C dX0_stepFrom_67 (by decide) ?_
        exact r_stk (if_neg c3) k4
noncomputable def fX0_stepFrom_29 (σ : Nat → Int32)  (x1 : Int32) (x2 : Int32) (s0 : Int32) : Int32 := (if (fX0_isFenced σ s0) = 0 then s0 else (fX0_stepFrom_43 σ x1 x2))
theorem bX0_stepFrom_29 {Z : Zt} {E : Ec} {M0 : Mi} {σ : Nat → Int32} {N : Ml} {j : Nat} (C : Ok 1 Z E cX0_stepFrom 6 RX0 (some .int) 1) (hj : j < 4)   (x1 : Int32) (x2 : Int32) (s0 : Int32)  : GT Z E 6 (finX0_stepFrom M0 σ N j) 29 [(0, .ref (zA Z j 0)), (1, .int x1), (2, .int x2)] [.int s0] (sR M0 j σ) N (some (fX0_stepFrom_29 σ x1 x2 s0)) := by
  unfold fX0_stepFrom_29
  refine r_istore (lv' := [(4, .int s0), (0, .ref (zA Z j 0)), (1, .int x1), (2, .int x2)]) C dX0_stepFrom_29 (by decide) rfl ?_
  refine r_aload_n C dX0_stepFrom_31 0 1 rfl rfl ?_
  refine r_iload C dX0_stepFrom_32 0 rfl ?_
  refine r_callV (rest := []) (st2 := [.int (fX0_isFenced σ s0)]) C (mX0_isFenced (eL E) C.z hj _ _ σ s0) lk_X0_82 (rvI C hj) (by decide) rfl rfl (Nat.le_of_ble_eq_true rfl) dX0_stepFrom_34 rfl ?_
  refine r_st ?_
  refine r_if_ne (tgt := 43) C dX0_stepFrom_37 (by decide) (fun c8 => ?_) (fun c8 => ?_)
  · refine r_lv [1, 2, 3] (lv' := [(0, .ref (zA Z j 0)), (1, .int x1), (2, .int x2)]) rfl ?_
    exact bX0_stepFrom_43 C hj x1 x2
  · refine r_iload C dX0_stepFrom_40 0 rfl ?_
    exact r_iret C dX0_stepFrom_42 rfl
noncomputable def fX0_stepFrom (σ : Nat → Int32)  (x1 : Int32) (x2 : Int32) : Int32 := (if ((x2 / 6) - (x1 / 6)) = 0 then (fX0_stepFrom_43 σ x1 x2) else (fX0_stepFrom_29 σ x1 x2 (if ((x2 / 6) - (x1 / 6)) ≤ 0 then (x1 - 6) else (x1 + 6) : Int32)))
theorem bX0_stepFrom {Z : Zt} {E : Ec} {M0 : Mi} {σ : Nat → Int32} {N : Ml} {j : Nat} (C : Ok 1 Z E cX0_stepFrom 6 RX0 (some .int) 1) (hj : j < 4)   (x1 : Int32) (x2 : Int32)  : GT Z E 6 (finX0_stepFrom M0 σ N j) 0 [(0, .ref (zA Z j 0)), (1, .int x1), (2, .int x2)] [] (sR M0 j σ) N (some (fX0_stepFrom σ x1 x2)) := by
  unfold fX0_stepFrom
  refine r_iload_n C dX0_stepFrom_0 2 2 rfl rfl ?_
  refine r_bipush (v := 6) C dX0_stepFrom_1 (by decide) ?_
  refine r_idiv C dX0_stepFrom_3 (by decide) ?_
  refine r_iload_n C dX0_stepFrom_4 1 1 rfl rfl ?_
  refine r_bipush (v := 6) C dX0_stepFrom_5 (by decide) ?_
  refine r_idiv C dX0_stepFrom_7 (by decide) ?_
  refine r_isub C dX0_stepFrom_8 ?_
  refine r_istore_n (lv' := [(3, .int ((x2 / 6) - (x1 / 6))), (0, .ref (zA Z j 0)), (1, .int x1), (2, .int x2)]) C dX0_stepFrom_9 3 rfl (by decide) rfl ?_
  refine r_iload_n C dX0_stepFrom_10 3 0 rfl rfl ?_
  refine r_st ?_
  refine r_if_eq (tgt := 43) C dX0_stepFrom_11 (by decide) (fun c1 => ?_) (fun c1 => ?_)
  · refine r_lv [1, 2, 3] (lv' := [(0, .ref (zA Z j 0)), (1, .int x1), (2, .int x2)]) rfl ?_
    exact bX0_stepFrom_43 C hj x1 x2
  · refine r_iload_n C dX0_stepFrom_14 3 0 rfl rfl ?_
    refine r_sel (tj := 29) (sj := [.int (if ((x2 / 6) - (x1 / 6)) ≤ 0 then (x1 - 6) else (x1 + 6) : Int32)]) ?_ (fun k7 => ?_)
    · refine r_lv [1, 2, 3] (lv' := [(0, .ref (zA Z j 0)), (1, .int x1), (2, .int x2)]) rfl ?_
      exact bX0_stepFrom_29 C hj x1 x2 (if ((x2 / 6) - (x1 / 6)) ≤ 0 then (x1 - 6) else (x1 + 6) : Int32)
    · refine r_same (P := ((x2 / 6) - (x1 / 6)) ≤ 0) ?_
      refine r_if_le (tgt := 25) C dX0_stepFrom_15 (by decide) (fun c6 => ?_) (fun c6 => ?_)
      · refine r_iload_n C dX0_stepFrom_25 1 2 rfl rfl ?_
        refine r_bipush (v := 6) C dX0_stepFrom_26 (by decide) ?_
        refine r_isub C dX0_stepFrom_28 ?_
        exact r_stk (if_pos c6) k7
      · refine r_iload_n C dX0_stepFrom_18 1 2 rfl rfl ?_
        refine r_bipush (v := 6) C dX0_stepFrom_19 (by decide) ?_
        refine r_iadd C dX0_stepFrom_21 ?_
        refine r_goto (tgt := 29) C dX0_stepFrom_22 (by decide) ?_
        exact r_stk (if_neg c6) k7
theorem mX0_stepFrom (l : Launch) {Z : Zt} (hZ : Zok 1 Z) {j : Nat} (hj : j < 4) (M0 : Mi) (N : Ml) (σ : Nat → Int32) (x1 : Int32) (x2 : Int32) : Ct 1 Z l yX0_stepFrom cX0_stepFrom 6 (some .int) 1 [.ref (zA Z j 0), .int x1, .int x2] (sR M0 j σ) N (some (Value.int (fX0_stepFrom σ x1 x2)), sR M0 j σ, N) :=
  metG (fin := (finX0_stepFrom M0 σ N j)) (by decide) (Nat.le_of_ble_eq_true rfl) (fun E _ C => bX0_stepFrom C hj x1 x2) rfl
theorem dX0_walk_0 : decode cX0_walk 0 = .ok (.aload_n 0, 1) := by decide +kernel
theorem dX0_walk_1 : decode cX0_walk 1 = .ok (.getfield 24, 3) := by decide +kernel
theorem dX0_walk_4 : decode cX0_walk 4 = .ok (.iload_n 1, 1) := by decide +kernel
theorem dX0_walk_5 : decode cX0_walk 5 = .ok (.baload, 1) := by decide +kernel
theorem dX0_walk_6 : decode cX0_walk 6 = .ok (.ifCond .eq 4, 3) := by decide +kernel
theorem dX0_walk_9 : decode cX0_walk 9 = .ok (.return_, 1) := by decide +kernel
theorem dX0_walk_10 : decode cX0_walk 10 = .ok (.aload_n 0, 1) := by decide +kernel
theorem dX0_walk_11 : decode cX0_walk 11 = .ok (.iload_n 1, 1) := by decide +kernel
theorem dX0_walk_12 : decode cX0_walk 12 = .ok (.invokevirtual 72, 3) := by decide +kernel
theorem dX0_walk_15 : decode cX0_walk 15 = .ok (.istore_n 2, 1) := by decide +kernel
theorem dX0_walk_16 : decode cX0_walk 16 = .ok (.aload_n 0, 1) := by decide +kernel
theorem dX0_walk_17 : decode cX0_walk 17 = .ok (.iload_n 1, 1) := by decide +kernel
theorem dX0_walk_18 : decode cX0_walk 18 = .ok (.invokevirtual 75, 3) := by decide +kernel
theorem dX0_walk_21 : decode cX0_walk 21 = .ok (.istore_n 3, 1) := by decide +kernel
theorem dX0_walk_22 : decode cX0_walk 22 = .ok (.iconst 0, 1) := by decide +kernel
theorem dX0_walk_23 : decode cX0_walk 23 = .ok (.istore 4, 2) := by decide +kernel
theorem dX0_walk_25 : decode cX0_walk 25 = .ok (.iload 4, 2) := by decide +kernel
theorem dX0_walk_27 : decode cX0_walk 27 = .ok (.iload_n 3, 1) := by decide +kernel
theorem dX0_walk_28 : decode cX0_walk 28 = .ok (.if_icmp .ge 26, 3) := by decide +kernel
theorem dX0_walk_31 : decode cX0_walk 31 = .ok (.aload_n 0, 1) := by decide +kernel
theorem dX0_walk_32 : decode cX0_walk 32 = .ok (.getfield 18, 3) := by decide +kernel
theorem dX0_walk_35 : decode cX0_walk 35 = .ok (.iload_n 1, 1) := by decide +kernel
theorem dX0_walk_36 : decode cX0_walk 36 = .ok (.aload_n 0, 1) := by decide +kernel
theorem dX0_walk_37 : decode cX0_walk 37 = .ok (.aload_n 0, 1) := by decide +kernel
theorem dX0_walk_38 : decode cX0_walk 38 = .ok (.getfield 18, 3) := by decide +kernel
theorem dX0_walk_41 : decode cX0_walk 41 = .ok (.iload_n 1, 1) := by decide +kernel
theorem dX0_walk_42 : decode cX0_walk 42 = .ok (.iaload, 1) := by decide +kernel
theorem dX0_walk_43 : decode cX0_walk 43 = .ok (.iload_n 2, 1) := by decide +kernel
theorem dX0_walk_44 : decode cX0_walk 44 = .ok (.invokevirtual 78, 3) := by decide +kernel
theorem dX0_walk_47 : decode cX0_walk 47 = .ok (.iastore, 1) := by decide +kernel
theorem dX0_walk_48 : decode cX0_walk 48 = .ok (.iinc 4 1, 3) := by decide +kernel
theorem dX0_walk_51 : decode cX0_walk 51 = .ok (.goto (-26), 3) := by decide +kernel
theorem dX0_walk_54 : decode cX0_walk 54 = .ok (.return_, 1) := by decide +kernel
def finX0_walk (M0 : Mi) (N : Ml) (j : Nat) : (Nat → Int32) → Option Value × Mi × Ml := fun b => (none, sR M0 j (b), N)
noncomputable def fX0_walk_25   : Nat → (Nat → Int32) → Int32 → Int32 → Int32 → Int32 → Option ((Nat → Int32))
  | 0 => fun _ _ _ _ _ => none
  | n + 1 => fun σ x1 x2 x3 x4 => (if x3 ≤ x4 then (some σ) else (if inb x1 8 then ((fX0_walk_25 n) (upd σ (8 + 4 * ix x1) (fX0_stepFrom σ (σ (8 + 4 * ix x1)) x2)) x1 x2 x3 (x4 + 1)) else none))
theorem bX0_walk_25 {Z : Zt} {E : Ec} {M0 : Mi} {N : Ml} {j : Nat} (C : Ok 1 Z E cX0_walk 5 RX0 none 2) (hj : j < 4)   : ∀ (n : Nat) (σ : Nat → Int32) (x1 : Int32) (x2 : Int32) (x3 : Int32) (x4 : Int32), GT Z E 5 (finX0_walk M0 N j) 25 [(0, .ref (zA Z j 0)), (1, .int x1), (2, .int x2), (3, .int x3), (4, .int x4)] [] (sR M0 j σ) N (fX0_walk_25 n σ x1 x2 x3 x4) := by
  intro n
  induction n with
  | zero => intro σ x1 x2 x3 x4; exact r_none
  | succ n ih =>
    intro σ x1 x2 x3 x4
    rw [fX0_walk_25]
    refine r_iload C dX0_walk_25 4 rfl ?_
    refine r_iload_n C dX0_walk_27 3 3 rfl rfl ?_
    refine r_ic_ge (tgt := 54) C dX0_walk_28 (by decide) (fun c5 => ?_) (fun c5 => ?_)
    · exact r_vret C dX0_walk_54 rfl
    · refine r_aload_n C dX0_walk_31 0 0 rfl rfl ?_
      refine gf_X0_18 C hj dX0_walk_32 ?_
      refine r_iload_n C dX0_walk_35 1 1 rfl rfl ?_
      refine r_aload_n C dX0_walk_36 0 0 rfl rfl ?_
      refine r_aload_n C dX0_walk_37 0 0 rfl rfl ?_
      refine gf_X0_18 C hj dX0_walk_38 ?_
      refine r_iload_n C dX0_walk_41 1 1 rfl rfl ?_
      refine r_guard (fun h6 => ?_)
      refine ald_I3 (v := (σ (8 + 4 * ix x1))) C hj h6 (sR_at _ _ _ _) dX0_walk_42 ?_
      refine r_iload_n C dX0_walk_43 2 2 rfl rfl ?_
      refine r_callV (rest := [.int x1, .ref (zA Z j 3)]) (st2 := [.int (fX0_stepFrom σ (σ (8 + 4 * ix x1)) x2), .int x1, .ref (zA Z j 3)]) C (mX0_stepFrom (eL E) C.z hj _ _ σ (σ (8 + 4 * ix x1)) x2) lk_X0_78 (rvI C hj) (by decide) rfl rfl (Nat.le_of_ble_eq_true rfl) dX0_walk_44 rfl ?_
      refine ast_I3 (M' := (sR M0 j (upd σ (8 + 4 * ix x1) (fX0_stepFrom σ (σ (8 + 4 * ix x1)) x2)))) C hj h6 (wM_sR _ _ _ _ _) dX0_walk_47 ?_
      refine r_iinc (v := (x4 + 1)) (lv' := [(4, .int (x4 + 1)), (0, .ref (zA Z j 0)), (1, .int x1), (2, .int x2), (3, .int x3)]) C dX0_walk_48 4 rfl rfl (by decide) rfl ?_
      refine r_goto (tgt := 25) C dX0_walk_51 (by decide) ?_
      refine r_lv [1, 2, 3, 4, 0] (lv' := [(0, .ref (zA Z j 0)), (1, .int x1), (2, .int x2), (3, .int x3), (4, .int (x4 + 1))]) rfl ?_
      exact ih (upd σ (8 + 4 * ix x1) (fX0_stepFrom σ (σ (8 + 4 * ix x1)) x2)) x1 x2 x3 (x4 + 1)
noncomputable def fX0_walk   (σ : Nat → Int32) (x1 : Int32) : Option ((Nat → Int32)) := (if inb x1 8 then (if (σ (10 + 4 * ix x1)) = 0 then (Option.bind (fX0_aimOf σ x1) (fun a3 => (Option.bind (fX0_paceOf σ x1) (fun a4 => (fX0_walk_25 fu σ x1 a3 a4 0))))) else (some σ)) else none)
theorem bX0_walk {Z : Zt} {E : Ec} {M0 : Mi} {N : Ml} {j : Nat} (C : Ok 1 Z E cX0_walk 5 RX0 none 2) (hj : j < 4)   (σ : Nat → Int32) (x1 : Int32)  : GT Z E 5 (finX0_walk M0 N j) 0 [(0, .ref (zA Z j 0)), (1, .int x1)] [] (sR M0 j σ) N (fX0_walk σ x1) := by
  unfold fX0_walk
  refine r_aload_n C dX0_walk_0 0 0 rfl rfl ?_
  refine gf_X0_24 C hj dX0_walk_1 ?_
  refine r_iload_n C dX0_walk_4 1 1 rfl rfl ?_
  refine r_guard (fun h1 => ?_)
  refine ald_I5 (v := (σ (10 + 4 * ix x1))) C hj h1 (sR_at _ _ _ _) dX0_walk_5 ?_
  refine r_if_eq (tgt := 10) C dX0_walk_6 (by decide) (fun c2 => ?_) (fun c2 => ?_)
  · refine r_aload_n C dX0_walk_10 0 0 rfl rfl ?_
    refine r_iload_n C dX0_walk_11 1 1 rfl rfl ?_
    refine r_bind (fun a3 ha3 => ?_)
    refine r_callV (rest := []) (st2 := [.int a3]) C (mX0_aimOf (eL E) C.z hj _ _ σ x1 a3 ha3) lk_X0_72 (rvI C hj) (by decide) rfl rfl (Nat.le_of_ble_eq_true rfl) dX0_walk_12 rfl ?_
    refine r_istore_n (lv' := [(2, .int a3), (0, .ref (zA Z j 0)), (1, .int x1)]) C dX0_walk_15 2 rfl (by decide) rfl ?_
    refine r_aload_n C dX0_walk_16 0 1 rfl rfl ?_
    refine r_iload_n C dX0_walk_17 1 2 rfl rfl ?_
    refine r_bind (fun a4 ha4 => ?_)
    refine r_callV (rest := []) (st2 := [.int a4]) C (mX0_paceOf (eL E) C.z hj _ _ σ x1 a4 ha4) lk_X0_75 (rvI C hj) (by decide) rfl rfl (Nat.le_of_ble_eq_true rfl) dX0_walk_18 rfl ?_
    refine r_istore_n (lv' := [(3, .int a4), (2, .int a3), (0, .ref (zA Z j 0)), (1, .int x1)]) C dX0_walk_21 3 rfl (by decide) rfl ?_
    refine r_iconst (v := 0) C dX0_walk_22 (by decide) ?_
    refine r_istore (lv' := [(4, .int 0), (3, .int a4), (2, .int a3), (0, .ref (zA Z j 0)), (1, .int x1)]) C dX0_walk_23 (by decide) rfl ?_
    refine r_lv [3, 4, 2, 1, 0] (lv' := [(0, .ref (zA Z j 0)), (1, .int x1), (2, .int a3), (3, .int a4), (4, .int 0)]) rfl ?_
    exact bX0_walk_25 C hj fu σ x1 a3 a4 0
  · exact r_vret C dX0_walk_9 rfl
theorem mX0_walk (l : Launch) {Z : Zt} (hZ : Zok 1 Z) {j : Nat} (hj : j < 4) (M0 : Mi) (N : Ml) (σ : Nat → Int32) (x1 : Int32) (b : (Nat → Int32)) (hb : fX0_walk σ x1 = some b) : Ct 1 Z l yX0_walk cX0_walk 5 none 2 [.ref (zA Z j 0), .int x1] (sR M0 j σ) N (none, sR M0 j (b), N) :=
  metG (fin := (finX0_walk M0 N j)) (by decide) (Nat.le_of_ble_eq_true rfl) (fun E _ C => bX0_walk C hj σ x1) hb
theorem dX0_handsOver_0 : decode cX0_handsOver 0 = .ok (.aload_n 0, 1) := by decide +kernel
theorem dX0_handsOver_1 : decode cX0_handsOver 1 = .ok (.getfield 21, 3) := by decide +kernel
theorem dX0_handsOver_4 : decode cX0_handsOver 4 = .ok (.iload_n 1, 1) := by decide +kernel
theorem dX0_handsOver_5 : decode cX0_handsOver 5 = .ok (.dup2, 1) := by decide +kernel
theorem dX0_handsOver_6 : decode cX0_handsOver 6 = .ok (.iaload, 1) := by decide +kernel
theorem dX0_handsOver_7 : decode cX0_handsOver 7 = .ok (.iload_n 3, 1) := by decide +kernel
theorem dX0_handsOver_8 : decode cX0_handsOver 8 = .ok (.iconst (-1), 1) := by decide +kernel
theorem dX0_handsOver_9 : decode cX0_handsOver 9 = .ok (.ixor, 1) := by decide +kernel
theorem dX0_handsOver_10 : decode cX0_handsOver 10 = .ok (.iand, 1) := by decide +kernel
theorem dX0_handsOver_11 : decode cX0_handsOver 11 = .ok (.iastore, 1) := by decide +kernel
theorem dX0_handsOver_12 : decode cX0_handsOver 12 = .ok (.aload_n 0, 1) := by decide +kernel
theorem dX0_handsOver_13 : decode cX0_handsOver 13 = .ok (.getfield 21, 3) := by decide +kernel
theorem dX0_handsOver_16 : decode cX0_handsOver 16 = .ok (.iload_n 2, 1) := by decide +kernel
theorem dX0_handsOver_17 : decode cX0_handsOver 17 = .ok (.dup2, 1) := by decide +kernel
theorem dX0_handsOver_18 : decode cX0_handsOver 18 = .ok (.iaload, 1) := by decide +kernel
theorem dX0_handsOver_19 : decode cX0_handsOver 19 = .ok (.iload_n 3, 1) := by decide +kernel
theorem dX0_handsOver_20 : decode cX0_handsOver 20 = .ok (.ior, 1) := by decide +kernel
theorem dX0_handsOver_21 : decode cX0_handsOver 21 = .ok (.iastore, 1) := by decide +kernel
theorem dX0_handsOver_22 : decode cX0_handsOver 22 = .ok (.return_, 1) := by decide +kernel
def finX0_handsOver (M0 : Mi) (N : Ml) (j : Nat) : (Nat → Int32) → Option Value × Mi × Ml := fun b => (none, sR M0 j (b), N)
noncomputable def fX0_handsOver   (σ : Nat → Int32) (x1 : Int32) (x2 : Int32) (x3 : Int32) : Option ((Nat → Int32)) := (if inb x1 8 then (if inb x2 8 then (some (upd (upd σ (9 + 4 * ix x1) ((σ (9 + 4 * ix x1)) &&& (x3 ^^^ (-1)))) (9 + 4 * ix x2) (((upd σ (9 + 4 * ix x1) ((σ (9 + 4 * ix x1)) &&& (x3 ^^^ (-1)))) (9 + 4 * ix x2)) ||| x3))) else none) else none)
theorem bX0_handsOver {Z : Zt} {E : Ec} {M0 : Mi} {N : Ml} {j : Nat} (C : Ok 1 Z E cX0_handsOver 4 RX0 none 0) (hj : j < 4)   (σ : Nat → Int32) (x1 : Int32) (x2 : Int32) (x3 : Int32)  : GT Z E 4 (finX0_handsOver M0 N j) 0 [(0, .ref (zA Z j 0)), (1, .int x1), (2, .int x2), (3, .int x3)] [] (sR M0 j σ) N (fX0_handsOver σ x1 x2 x3) := by
  unfold fX0_handsOver
  refine r_aload_n C dX0_handsOver_0 0 0 rfl rfl ?_
  refine gf_X0_21 C hj dX0_handsOver_1 ?_
  refine r_iload_n C dX0_handsOver_4 1 1 rfl rfl ?_
  refine r_dup2 C dX0_handsOver_5 rfl rfl ?_
  refine r_guard (fun h1 => ?_)
  refine ald_I4 (v := (σ (9 + 4 * ix x1))) C hj h1 (sR_at _ _ _ _) dX0_handsOver_6 ?_
  refine r_iload_n C dX0_handsOver_7 3 3 rfl rfl ?_
  refine r_iconst (v := (-1)) C dX0_handsOver_8 (by decide) ?_
  refine r_ixor C dX0_handsOver_9 ?_
  refine r_iand C dX0_handsOver_10 ?_
  refine ast_I4 (M' := (sR M0 j (upd σ (9 + 4 * ix x1) ((σ (9 + 4 * ix x1)) &&& (x3 ^^^ (-1)))))) C hj h1 (wM_sR _ _ _ _ _) dX0_handsOver_11 ?_
  refine r_aload_n C dX0_handsOver_12 0 0 rfl rfl ?_
  refine gf_X0_21 C hj dX0_handsOver_13 ?_
  refine r_iload_n C dX0_handsOver_16 2 2 rfl rfl ?_
  refine r_dup2 C dX0_handsOver_17 rfl rfl ?_
  refine r_guard (fun h2 => ?_)
  refine ald_I4 (v := ((upd σ (9 + 4 * ix x1) ((σ (9 + 4 * ix x1)) &&& (x3 ^^^ (-1)))) (9 + 4 * ix x2))) C hj h2 (sR_at _ _ _ _) dX0_handsOver_18 ?_
  refine r_iload_n C dX0_handsOver_19 3 3 rfl rfl ?_
  refine r_ior C dX0_handsOver_20 ?_
  refine ast_I4 (M' := (sR M0 j (upd (upd σ (9 + 4 * ix x1) ((σ (9 + 4 * ix x1)) &&& (x3 ^^^ (-1)))) (9 + 4 * ix x2) (((upd σ (9 + 4 * ix x1) ((σ (9 + 4 * ix x1)) &&& (x3 ^^^ (-1)))) (9 + 4 * ix x2)) ||| x3)))) C hj h2 (wM_sR _ _ _ _ _) dX0_handsOver_21 ?_
  exact r_vret C dX0_handsOver_22 rfl
theorem mX0_handsOver (l : Launch) {Z : Zt} (hZ : Zok 1 Z) {j : Nat} (hj : j < 4) (M0 : Mi) (N : Ml) (σ : Nat → Int32) (x1 : Int32) (x2 : Int32) (x3 : Int32) (b : (Nat → Int32)) (hb : fX0_handsOver σ x1 x2 x3 = some b) : Ct 1 Z l yX0_handsOver cX0_handsOver 4 none 0 [.ref (zA Z j 0), .int x1, .int x2, .int x3] (sR M0 j σ) N (none, sR M0 j (b), N) :=
  metG (fin := (finX0_handsOver M0 N j)) (by decide) (Nat.le_of_ble_eq_true rfl) (fun E _ C => bX0_handsOver C hj σ x1 x2 x3) hb
theorem dX0_meetTwo_0 : decode cX0_meetTwo 0 = .ok (.aload_n 0, 1) := by decide +kernel
theorem dX0_meetTwo_1 : decode cX0_meetTwo 1 = .ok (.getfield 21, 3) := by decide +kernel
theorem dX0_meetTwo_4 : decode cX0_meetTwo 4 = .ok (.iload_n 2, 1) := by decide +kernel
theorem dX0_meetTwo_5 : decode cX0_meetTwo 5 = .ok (.iaload, 1) := by decide +kernel
theorem dX0_meetTwo_6 : decode cX0_meetTwo 6 = .ok (.invokestatic 45, 3) := by decide +kernel
theorem dX0_meetTwo_9 : decode cX0_meetTwo 9 = .ok (.aload_n 0, 1) := by decide +kernel
theorem dX0_meetTwo_10 : decode cX0_meetTwo 10 = .ok (.getfield 21, 3) := by decide +kernel
theorem dX0_meetTwo_13 : decode cX0_meetTwo 13 = .ok (.iload_n 1, 1) := by decide +kernel
theorem dX0_meetTwo_14 : decode cX0_meetTwo 14 = .ok (.iaload, 1) := by decide +kernel
theorem dX0_meetTwo_15 : decode cX0_meetTwo 15 = .ok (.invokestatic 45, 3) := by decide +kernel
theorem dX0_meetTwo_18 : decode cX0_meetTwo 18 = .ok (.if_icmp .gt 4, 3) := by decide +kernel
theorem dX0_meetTwo_21 : decode cX0_meetTwo 21 = .ok (.return_, 1) := by decide +kernel
theorem dX0_meetTwo_22 : decode cX0_meetTwo 22 = .ok (.aload_n 0, 1) := by decide +kernel
theorem dX0_meetTwo_23 : decode cX0_meetTwo 23 = .ok (.getfield 21, 3) := by decide +kernel
theorem dX0_meetTwo_26 : decode cX0_meetTwo 26 = .ok (.iload_n 2, 1) := by decide +kernel
theorem dX0_meetTwo_27 : decode cX0_meetTwo 27 = .ok (.iaload, 1) := by decide +kernel
theorem dX0_meetTwo_28 : decode cX0_meetTwo 28 = .ok (.aload_n 0, 1) := by decide +kernel
theorem dX0_meetTwo_29 : decode cX0_meetTwo 29 = .ok (.getfield 21, 3) := by decide +kernel
theorem dX0_meetTwo_32 : decode cX0_meetTwo 32 = .ok (.iload_n 1, 1) := by decide +kernel
theorem dX0_meetTwo_33 : decode cX0_meetTwo 33 = .ok (.iaload, 1) := by decide +kernel
theorem dX0_meetTwo_34 : decode cX0_meetTwo 34 = .ok (.iconst (-1), 1) := by decide +kernel
theorem dX0_meetTwo_35 : decode cX0_meetTwo 35 = .ok (.ixor, 1) := by decide +kernel
theorem dX0_meetTwo_36 : decode cX0_meetTwo 36 = .ok (.iand, 1) := by decide +kernel
theorem dX0_meetTwo_37 : decode cX0_meetTwo 37 = .ok (.istore_n 3, 1) := by decide +kernel
theorem dX0_meetTwo_38 : decode cX0_meetTwo 38 = .ok (.aload_n 0, 1) := by decide +kernel
theorem dX0_meetTwo_39 : decode cX0_meetTwo 39 = .ok (.iload_n 2, 1) := by decide +kernel
theorem dX0_meetTwo_40 : decode cX0_meetTwo 40 = .ok (.iload_n 1, 1) := by decide +kernel
theorem dX0_meetTwo_41 : decode cX0_meetTwo 41 = .ok (.iload_n 3, 1) := by decide +kernel
theorem dX0_meetTwo_42 : decode cX0_meetTwo 42 = .ok (.iload_n 3, 1) := by decide +kernel
theorem dX0_meetTwo_43 : decode cX0_meetTwo 43 = .ok (.ineg, 1) := by decide +kernel
theorem dX0_meetTwo_44 : decode cX0_meetTwo 44 = .ok (.iand, 1) := by decide +kernel
theorem dX0_meetTwo_45 : decode cX0_meetTwo 45 = .ok (.invokevirtual 89, 3) := by decide +kernel
theorem dX0_meetTwo_48 : decode cX0_meetTwo 48 = .ok (.return_, 1) := by decide +kernel
def finX0_meetTwo (M0 : Mi) (N : Ml) (j : Nat) : (Nat → Int32) → Option Value × Mi × Ml := fun b => (none, sR M0 j (b), N)
noncomputable def fX0_meetTwo   (σ : Nat → Int32) (x1 : Int32) (x2 : Int32) : Option ((Nat → Int32)) := (if inb x2 8 then (if inb x1 8 then (if (fJ6_bitCount_0f7a4 (σ (9 + 4 * ix x1))) < (fJ6_bitCount_0f7a4 (σ (9 + 4 * ix x2))) then (Option.bind (fX0_handsOver σ x2 x1 (((σ (9 + 4 * ix x2)) &&& ((σ (9 + 4 * ix x1)) ^^^ (-1))) &&& (-((σ (9 + 4 * ix x2)) &&& ((σ (9 + 4 * ix x1)) ^^^ (-1)))))) (fun a4 => (some a4))) else (some σ)) else none) else none)
theorem bX0_meetTwo {Z : Zt} {E : Ec} {M0 : Mi} {N : Ml} {j : Nat} (C : Ok 1 Z E cX0_meetTwo 4 RX0 none 1) (hj : j < 4)   (σ : Nat → Int32) (x1 : Int32) (x2 : Int32)  : GT Z E 4 (finX0_meetTwo M0 N j) 0 [(0, .ref (zA Z j 0)), (1, .int x1), (2, .int x2)] [] (sR M0 j σ) N (fX0_meetTwo σ x1 x2) := by
  unfold fX0_meetTwo
  refine r_aload_n C dX0_meetTwo_0 0 0 rfl rfl ?_
  refine gf_X0_21 C hj dX0_meetTwo_1 ?_
  refine r_iload_n C dX0_meetTwo_4 2 2 rfl rfl ?_
  refine r_guard (fun h1 => ?_)
  refine ald_I4 (v := (σ (9 + 4 * ix x2))) C hj h1 (sR_at _ _ _ _) dX0_meetTwo_5 ?_
  refine r_callS (rest := []) (st2 := [.int (fJ6_bitCount_0f7a4 (σ (9 + 4 * ix x2)))]) C (mJ6_bitCount_0f7a4 (eL E) C.z _ _ (σ (9 + 4 * ix x2))) lk_X0_45 (by decide) rfl rfl (Nat.le_of_ble_eq_true rfl) dX0_meetTwo_6 rfl ?_
  refine r_aload_n C dX0_meetTwo_9 0 0 rfl rfl ?_
  refine gf_X0_21 C hj dX0_meetTwo_10 ?_
  refine r_iload_n C dX0_meetTwo_13 1 1 rfl rfl ?_
  refine r_guard (fun h2 => ?_)
  refine ald_I4 (v := (σ (9 + 4 * ix x1))) C hj h2 (sR_at _ _ _ _) dX0_meetTwo_14 ?_
  refine r_callS (rest := [.int (fJ6_bitCount_0f7a4 (σ (9 + 4 * ix x2)))]) (st2 := [.int (fJ6_bitCount_0f7a4 (σ (9 + 4 * ix x1))), .int (fJ6_bitCount_0f7a4 (σ (9 + 4 * ix x2)))]) C (mJ6_bitCount_0f7a4 (eL E) C.z _ _ (σ (9 + 4 * ix x1))) lk_X0_45 (by decide) rfl rfl (Nat.le_of_ble_eq_true rfl) dX0_meetTwo_15 rfl ?_
  refine r_ic_gt (tgt := 22) C dX0_meetTwo_18 (by decide) (fun c3 => ?_) (fun c3 => ?_)
  · refine r_aload_n C dX0_meetTwo_22 0 0 rfl rfl ?_
    refine gf_X0_21 C hj dX0_meetTwo_23 ?_
    refine r_iload_n C dX0_meetTwo_26 2 2 rfl rfl ?_
    refine ald_I4 (v := (σ (9 + 4 * ix x2))) C hj h1 (sR_at _ _ _ _) dX0_meetTwo_27 ?_
    refine r_aload_n C dX0_meetTwo_28 0 0 rfl rfl ?_
    refine gf_X0_21 C hj dX0_meetTwo_29 ?_
    refine r_iload_n C dX0_meetTwo_32 1 1 rfl rfl ?_
    refine ald_I4 (v := (σ (9 + 4 * ix x1))) C hj h2 (sR_at _ _ _ _) dX0_meetTwo_33 ?_
    refine r_iconst (v := (-1)) C dX0_meetTwo_34 (by decide) ?_
    refine r_ixor C dX0_meetTwo_35 ?_
    refine r_iand C dX0_meetTwo_36 ?_
    refine r_istore_n (lv' := [(3, .int ((σ (9 + 4 * ix x2)) &&& ((σ (9 + 4 * ix x1)) ^^^ (-1)))), (0, .ref (zA Z j 0)), (1, .int x1), (2, .int x2)]) C dX0_meetTwo_37 3 rfl (by decide) rfl ?_
    refine r_aload_n C dX0_meetTwo_38 0 1 rfl rfl ?_
    refine r_iload_n C dX0_meetTwo_39 2 3 rfl rfl ?_
    refine r_iload_n C dX0_meetTwo_40 1 2 rfl rfl ?_
    refine r_iload_n C dX0_meetTwo_41 3 0 rfl rfl ?_
    refine r_iload_n C dX0_meetTwo_42 3 0 rfl rfl ?_
    refine r_ineg C dX0_meetTwo_43 ?_
    refine r_iand C dX0_meetTwo_44 ?_
    refine r_bind (fun a4 ha4 => ?_)
    refine r_callV (rest := []) (st2 := []) C (mX0_handsOver (eL E) C.z hj _ _ σ x2 x1 (((σ (9 + 4 * ix x2)) &&& ((σ (9 + 4 * ix x1)) ^^^ (-1))) &&& (-((σ (9 + 4 * ix x2)) &&& ((σ (9 + 4 * ix x1)) ^^^ (-1))))) a4 ha4) lk_X0_89 (rvI C hj) (by decide) rfl rfl (Nat.le_of_ble_eq_true rfl) dX0_meetTwo_45 rfl ?_
    exact r_vret C dX0_meetTwo_48 rfl
  · exact r_vret C dX0_meetTwo_21 rfl
theorem mX0_meetTwo (l : Launch) {Z : Zt} (hZ : Zok 1 Z) {j : Nat} (hj : j < 4) (M0 : Mi) (N : Ml) (σ : Nat → Int32) (x1 : Int32) (x2 : Int32) (b : (Nat → Int32)) (hb : fX0_meetTwo σ x1 x2 = some b) : Ct 1 Z l yX0_meetTwo cX0_meetTwo 4 none 1 [.ref (zA Z j 0), .int x1, .int x2] (sR M0 j σ) N (none, sR M0 j (b), N) :=
  metG (fin := (finX0_meetTwo M0 N j)) (by decide) (Nat.le_of_ble_eq_true rfl) (fun E _ C => bX0_meetTwo C hj σ x1 x2) hb
