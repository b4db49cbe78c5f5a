/-! THE CLAIM OUT OF ONE WALK OF THE LAW'S BODY. Your part is whole_start (and what it stands on); all else here is the same for every law, but numbers. -/
def R_law : String := "TortoiseShelvesLaw"
def lw_P (b : Addr) (xs : List Int32) (args : Array Value) (s : State) : Prop := args = #[.ref b] ∧ s.IntsAt b xs ∧ xs.length ≤ 3072 ∧ (Jvm.Cond.and given_1 narrow_1).before args s = true
def lw_Q (_ : Array Value) (s : State) (o : Outcome) (t : State) : Prop := o = .returned (some (.int 1)) ∧ Framed s o t [] 600000 7302249
def lw_Z (below : List Frame) (a : Array Value) (s : State) : State → Prop := fun t => ∃ o, t.status = .running ∧ Ended t below o ∧ lw_Q a s o t
/-- the law's own end, with 1 on the stack, nothing written that was there before, its room as the claim has it -/
theorem lw_ret {p : Program} {l : Launch} {e : Env} {s : State} {m : MethodId} {below : List Frame} {meth : Method} {c : Code} {b : Nat} (hx : p.tables.exec = Jvm.exec) (hb : c.code = code) (hr : meth.sig.returnType = ret) (hlocks : meth.locks = false) {pc : Nat} {H : Heap} {ls : Array Slot} (hdg : decode code pc = .ok (.ireturn, 1)) : W p l e room_1 s m #[Value.ref b] below meth c H [] 600000 7302249 (lw_Z below #[Value.ref b] s) (F0 m pc ls [.int 1]) := by
  intro T hT X
  obtain ⟨fs, hret, hrun, hended, hW, hframe⟩ := X.leave (v := some (.int 1)) (hlocks := hlocks) (fun h => by rw [hr] at h; cases h)
  have hmeth' : T.vm.method? m = some meth := X.method'
  refine ⟨T.setFrames fs, ?_, .returned (some (.int 1)), hrun, hended, rfl, ⟨_, rfl⟩, hW, hframe⟩
  jvm_step X.here [X.here.top, hx, hb, hdg, hmeth', hr, ret, narrow_b1]
  (try refine ⟨rfl, ?_⟩); (try refine ⟨rfl, ?_⟩)
  first | (intro acts; rw [hret _ acts rfl rfl rfl]) | rw [hret _ _ rfl rfl rfl]
  exact Steps.refl _
/-- what holds at the law's entry: the machine, the code, the tables' words (any of lw_tbl by 'hts w (by decide +kernel)'), the script of L ints xs at the cell b, what the Statement gives of the start (any of its parts by flat_of_before) -/
def lw_At (p : Program) (s : State) (m : MethodId) (meth : Method) (c : Code) (b L : Nat) (xs : Nat → Int32) : Prop :=
  p.tables.exec = Jvm.exec ∧ c.code = code ∧ meth.sig.returnType = ret ∧ c.maxLocals = 4 ∧ s.vm.findClass R_law = some m.cls ∧ (∀ w ∈ lw_tbl, w.before #[Value.ref b] s = true) ∧ va_X b L xs s s.heap ∧ b < s.heap.size ∧ meth.locks = false ∧ (Jvm.Cond.and given_1 narrow_1).before #[Value.ref b] s = true
def Sims (Rel : Mi → Ml → Mi → Ml → Prop) : Prop := SimT_fence Rel ∧ SimT_spot Rel ∧ SimT_rain Rel ∧ SimT_cell Rel ∧ SimT_tortoise Rel ∧ SimT_of Rel ∧ SimT_set Rel ∧ SimT_turn Rel ∧ SimT_as Rel ∧ SimT_lend Rel ∧ SimT_hours Rel ∧ SimT_now Rel ∧ SimT_on Rel ∧ SimT_when Rel ∧ SimT_meet Rel ∧ SimT_carries Rel ∧ SimT_soonest Rel ∧ SimT_where Rel ∧ SimT_waits Rel ∧ SimT_waterhole Rel ∧ SimT_many Rel ∧ SimT_both Rel ∧ SimT_censors Rel ∧ SimT_tips Rel ∧ SimT_spring Rel ∧ SimT_kind Rel ∧ SimT_feed Rel ∧ SimT_wipe Rel ∧ SimT_island Rel ∧ SimT_sheet Rel ∧ SimT_write Rel ∧ SimT_copy Rel ∧ SimT_lays Rel ∧ SimT_book Rel ∧ SimT_read Rel ∧ SimT_image Rel ∧ SimT_undo Rel ∧ SimT_tear Rel ∧ SimT_count Rel ∧ SimT_status Rel
theorem lp_gt {i L : Nat} (hi : i ≤ 4000) (hL : L ≤ 3072) : (Int32.ofNat L - 6 < nI i) ↔ L < i + 6 := by
  rw [Int32.lt_iff_toInt_lt]
  have e1 : (Int32.ofNat L - 6).toInt = (L : Int) - 6 := pk_sub_toInt (a := L) (b := 6) (by omega) (by omega)
  rw [e1, nI_toInt (by omega)]
  omega
theorem lp_in {i L k : Nat} (hk : i + k < L) (hL : L ≤ 3072) : inb (nI i + nI k) L := by
  rw [nI_add]
  exact ⟨nI_pos (by omega), by rw [nI_clamp (by omega)]; exact hk⟩
section LOOP
variable {D : va_G} {cy : Nat → ClassId} {K V : Nat → Nat} {ka : Nat} {E : Ec} {bs L : Nat} {xs : Nat → Int32} {Q : State → Prop}
set_option maxHeartbeats 4000000 in
set_option maxRecDepth 20000 in
theorem law_loop (C : OkL D cy K V ka E bs L xs) {Rel : Mi → Ml → Mi → Ml → Prop} (hS : Sims Rel) (hL : L ≤ 3072) (hx : ∀ (x3 : Int32) (Mx : Mi) (Nx : Ml) (Mm : Mi) (Nm : Ml), GL D cy K V ka E Q 1505 [(0, .ref bs), (1, .ref (zA (zXE D cy K V ka E) 8 0)), (2, .ref (zA (zME D cy E) 6 0)), (3, .int x3)] [] Mx Nx Mm Nm) :
    ∀ (n i : Nat), i ≤ L + 6 → L + 7 ≤ i + n → ∀ (Mx : Mi) (Nx : Ml) (Mm : Mi) (Nm : Ml), Rel Mx Nx Mm Nm → GL D cy K V ka E Q 18 [(0, .ref bs), (1, .ref (zA (zXE D cy K V ka E) 8 0)), (2, .ref (zA (zME D cy E) 6 0)), (3, .int (nI i))] [] Mx Nx Mm Nm := by
  intro n
  induction n with
  | zero => intro i h1 h2; omega
  | succ n ih =>
    intro i hi hn Mx Nx Mm Nm hR
    refine gl_iload_n C dL_law_18 3 3 rfl rfl ?_
    refine gl_aload_n C dL_law_19 0 0 rfl rfl ?_
    refine gl_slen C dL_law_20 ?_
    refine gl_bipush (v := 6) C dL_law_21 (by decide) ?_
    refine gl_isub C dL_law_23 ?_
    refine gl_gt (tgt := 1505) C dL_law_24 (by decide) (fun _ => hx _ _ _ _ _) (fun c => ?_)
    rw [lp_gt (by omega) hL] at c
    have h1 : inb (nI i + 1) L := lp_in (k := 1) (by omega) hL
    have h2 : inb (nI i + 2) L := lp_in (k := 2) (by omega) hL
    have h3 : inb (nI i + 3) L := lp_in (k := 3) (by omega) hL
    have h4 : inb (nI i + 4) L := lp_in (k := 4) (by omega) hL
    have h5 : inb (nI i + 5) L := lp_in (k := 5) (by omega) hL
    have h0 : inb (nI i) L := ⟨nI_pos (by omega), by rw [nI_clamp (by omega)]; omega⟩
    have kk : ∀ (Mx : Mi) (Nx : Ml) (Mm : Mi) (Nm : Ml), Rel Mx Nx Mm Nm → GL D cy K V ka E Q 1499 [(0, .ref bs), (1, .ref (zA (zXE D cy K V ka E) 8 0)), (2, .ref (zA (zME D cy E) 6 0)), (3, .int (nI i))] [] Mx Nx Mm Nm := by
      intro Mx Nx Mm Nm hR
      refine gl_iinc (v := nI (i + 6)) (lv' := [(3, .int (nI (i + 6))), (0, .ref bs), (1, .ref (zA (zXE D cy K V ka E) 8 0)), (2, .ref (zA (zME D cy E) 6 0))]) C dL_law_1499 3 rfl (nI_add i 6) (by decide) rfl ?_
      refine gl_goto (tgt := 18) C dL_law_1502 (by decide) ?_
      refine gl_lv [1, 2, 3, 0] rfl ?_
      exact ih (i + 6) (by omega) (by omega) Mx Nx Mm Nm hR
    refine gl_aload_n C dL_law_27 0 0 rfl rfl ?_
    refine gl_iload_n C dL_law_28 3 3 rfl rfl ?_
    refine gl_sld C h0 dL_law_29 ?_
    refine gl_bipush (v := 63) C dL_law_30 (by decide) ?_
    refine gl_iand C dL_law_32 ?_
    generalize xs (ix (nI i)) &&& 63 = w
    refine gl_tsw (k := 0) (tgt := 208) C dL_law_33 (by decide) (by decide) rfl (by decide) (lc_fence C (hS.1) hR h1 h2 h3 h4 h5 kk) (fun c0 => ?_)
    refine gl_tsw (k := 1) (tgt := 241) C dL_law_33 (by decide) (by decide) rfl (by decide) (lc_spot C (hS.2.1) hR h1 h2 h3 h4 h5 kk) (fun c1 => ?_)
    refine gl_tsw (k := 2) (tgt := 274) C dL_law_33 (by decide) (by decide) rfl (by decide) (lc_rain C (hS.2.2.1) hR h1 h2 h3 h4 h5 kk) (fun c2 => ?_)
    refine gl_tsw (k := 3) (tgt := 297) C dL_law_33 (by decide) (by decide) rfl (by decide) (lc_cell C (hS.2.2.2.1) hR h1 h2 h3 h4 h5 kk) (fun c3 => ?_)
    refine gl_tsw (k := 4) (tgt := 330) C dL_law_33 (by decide) (by decide) rfl (by decide) (lc_tortoise C (hS.2.2.2.2.1) hR h1 h2 h3 h4 h5 kk) (fun c4 => ?_)
    refine gl_tsw (k := 5) (tgt := 373) C dL_law_33 (by decide) (by decide) rfl (by decide) (lc_of C (hS.2.2.2.2.2.1) hR h1 h2 h3 h4 h5 kk) (fun c5 => ?_)
    refine gl_tsw (k := 6) (tgt := 406) C dL_law_33 (by decide) (by decide) rfl (by decide) (lc_set C (hS.2.2.2.2.2.2.1) hR h1 h2 h3 h4 h5 kk) (fun c6 => ?_)
    refine gl_tsw (k := 7) (tgt := 449) C dL_law_33 (by decide) (by decide) rfl (by decide) (lc_turn C (hS.2.2.2.2.2.2.2.1) hR h1 h2 h3 h4 h5 kk) (fun c7 => ?_)
    refine gl_tsw (k := 8) (tgt := 482) C dL_law_33 (by decide) (by decide) rfl (by decide) (lc_as C (hS.2.2.2.2.2.2.2.2.1) hR h1 h2 h3 h4 h5 kk) (fun c8 => ?_)
    refine gl_tsw (k := 9) (tgt := 515) C dL_law_33 (by decide) (by decide) rfl (by decide) (lc_lend C (hS.2.2.2.2.2.2.2.2.2.1) hR h1 h2 h3 h4 h5 kk) (fun c9 => ?_)
    refine gl_tsw (k := 10) (tgt := 558) C dL_law_33 (by decide) (by decide) rfl (by decide) (lc_hours C (hS.2.2.2.2.2.2.2.2.2.2.1) hR h1 h2 h3 h4 h5 kk) (fun c10 => ?_)
    refine gl_tsw (k := 11) (tgt := 581) C dL_law_33 (by decide) (by decide) rfl (by decide) (lc_now C (hS.2.2.2.2.2.2.2.2.2.2.2.1) hR h1 h2 h3 h4 h5 kk) (fun c11 => ?_)
    refine gl_tsw (k := 12) (tgt := 604) C dL_law_33 (by decide) (by decide) rfl (by decide) (lc_on C (hS.2.2.2.2.2.2.2.2.2.2.2.2.1) hR h1 h2 h3 h4 h5 kk) (fun c12 => ?_)
    refine gl_tsw (k := 13) (tgt := 647) C dL_law_33 (by decide) (by decide) rfl (by decide) (lc_when C (hS.2.2.2.2.2.2.2.2.2.2.2.2.2.1) hR h1 h2 h3 h4 h5 kk) (fun c13 => ?_)
    refine gl_tsw (k := 14) (tgt := 680) C dL_law_33 (by decide) (by decide) rfl (by decide) (lc_meet C (hS.2.2.2.2.2.2.2.2.2.2.2.2.2.2.1) hR h1 h2 h3 h4 h5 kk) (fun c14 => ?_)
    refine gl_tsw (k := 15) (tgt := 713) C dL_law_33 (by decide) (by decide) rfl (by decide) (lc_carries C (hS.2.2.2.2.2.2.2.2.2.2.2.2.2.2.2.1) hR h1 h2 h3 h4 h5 kk) (fun c15 => ?_)
    refine gl_tsw (k := 16) (tgt := 746) C dL_law_33 (by decide) (by decide) rfl (by decide) (lc_soonest C (hS.2.2.2.2.2.2.2.2.2.2.2.2.2.2.2.2.1) hR h1 h2 h3 h4 h5 kk) (fun c16 => ?_)
    refine gl_tsw (k := 17) (tgt := 779) C dL_law_33 (by decide) (by decide) rfl (by decide) (lc_where C (hS.2.2.2.2.2.2.2.2.2.2.2.2.2.2.2.2.2.1) hR h1 h2 h3 h4 h5 kk) (fun c17 => ?_)
    refine gl_tsw (k := 18) (tgt := 812) C dL_law_33 (by decide) (by decide) rfl (by decide) (lc_waits C (hS.2.2.2.2.2.2.2.2.2.2.2.2.2.2.2.2.2.2.1) hR h1 h2 h3 h4 h5 kk) (fun c18 => ?_)
    refine gl_tsw (k := 19) (tgt := 845) C dL_law_33 (by decide) (by decide) rfl (by decide) (lc_waterhole C (hS.2.2.2.2.2.2.2.2.2.2.2.2.2.2.2.2.2.2.2.1) hR h1 h2 h3 h4 h5 kk) (fun c19 => ?_)
    refine gl_tsw (k := 20) (tgt := 868) C dL_law_33 (by decide) (by decide) rfl (by decide) (lc_many C (hS.2.2.2.2.2.2.2.2.2.2.2.2.2.2.2.2.2.2.2.2.1) hR h1 h2 h3 h4 h5 kk) (fun c20 => ?_)
    refine gl_tsw (k := 21) (tgt := 901) C dL_law_33 (by decide) (by decide) rfl (by decide) (lc_both C (hS.2.2.2.2.2.2.2.2.2.2.2.2.2.2.2.2.2.2.2.2.2.1) hR h1 h2 h3 h4 h5 kk) (fun c21 => ?_)
    refine gl_tsw (k := 22) (tgt := 944) C dL_law_33 (by decide) (by decide) rfl (by decide) (lc_censors C (hS.2.2.2.2.2.2.2.2.2.2.2.2.2.2.2.2.2.2.2.2.2.2.1) hR h1 h2 h3 h4 h5 kk) (fun c22 => ?_)
    refine gl_tsw (k := 23) (tgt := 987) C dL_law_33 (by decide) (by decide) rfl (by decide) (lc_tips C (hS.2.2.2.2.2.2.2.2.2.2.2.2.2.2.2.2.2.2.2.2.2.2.2.1) hR h1 h2 h3 h4 h5 kk) (fun c23 => ?_)
    refine gl_tsw (k := 24) (tgt := 1020) C dL_law_33 (by decide) (by decide) rfl (by decide) (lc_spring C (hS.2.2.2.2.2.2.2.2.2.2.2.2.2.2.2.2.2.2.2.2.2.2.2.2.1) hR h1 h2 h3 h4 h5 kk) (fun c24 => ?_)
    refine gl_tsw (k := 25) (tgt := 1053) C dL_law_33 (by decide) (by decide) rfl (by decide) (lc_kind C (hS.2.2.2.2.2.2.2.2.2.2.2.2.2.2.2.2.2.2.2.2.2.2.2.2.2.1) hR h1 h2 h3 h4 h5 kk) (fun c25 => ?_)
    refine gl_tsw (k := 26) (tgt := 1086) C dL_law_33 (by decide) (by decide) rfl (by decide) (lc_feed C (hS.2.2.2.2.2.2.2.2.2.2.2.2.2.2.2.2.2.2.2.2.2.2.2.2.2.2.1) hR h1 h2 h3 h4 h5 kk) (fun c26 => ?_)
    refine gl_tsw (k := 27) (tgt := 1119) C dL_law_33 (by decide) (by decide) rfl (by decide) (lc_wipe C (hS.2.2.2.2.2.2.2.2.2.2.2.2.2.2.2.2.2.2.2.2.2.2.2.2.2.2.2.1) hR h1 h2 h3 h4 h5 kk) (fun c27 => ?_)
    refine gl_tsw (k := 28) (tgt := 1132) C dL_law_33 (by decide) (by decide) rfl (by decide) (lc_island C (hS.2.2.2.2.2.2.2.2.2.2.2.2.2.2.2.2.2.2.2.2.2.2.2.2.2.2.2.2.1) hR h1 h2 h3 h4 h5 kk) (fun c28 => ?_)
    refine gl_tsw (k := 29) (tgt := 1145) C dL_law_33 (by decide) (by decide) rfl (by decide) (lc_sheet C (hS.2.2.2.2.2.2.2.2.2.2.2.2.2.2.2.2.2.2.2.2.2.2.2.2.2.2.2.2.2.1) hR h1 h2 h3 h4 h5 kk) (fun c29 => ?_)
    refine gl_tsw (k := 30) (tgt := 1188) C dL_law_33 (by decide) (by decide) rfl (by decide) (lc_write C (hS.2.2.2.2.2.2.2.2.2.2.2.2.2.2.2.2.2.2.2.2.2.2.2.2.2.2.2.2.2.2.1) hR h1 h2 h3 h4 h5 kk) (fun c30 => ?_)
    refine gl_tsw (k := 31) (tgt := 1262) C dL_law_33 (by decide) (by decide) rfl (by decide) (lc_copy C (hS.2.2.2.2.2.2.2.2.2.2.2.2.2.2.2.2.2.2.2.2.2.2.2.2.2.2.2.2.2.2.2.1) hR h1 h2 h3 h4 h5 kk) (fun c31 => ?_)
    refine gl_tsw (k := 32) (tgt := 1325) C dL_law_33 (by decide) (by decide) rfl (by decide) (lc_lays C (hS.2.2.2.2.2.2.2.2.2.2.2.2.2.2.2.2.2.2.2.2.2.2.2.2.2.2.2.2.2.2.2.2.1) hR h1 h2 h3 h4 h5 kk) (fun c32 => ?_)
    refine gl_tsw (k := 33) (tgt := 1348) C dL_law_33 (by decide) (by decide) rfl (by decide) (lc_book C (hS.2.2.2.2.2.2.2.2.2.2.2.2.2.2.2.2.2.2.2.2.2.2.2.2.2.2.2.2.2.2.2.2.2.1) hR h1 h2 h3 h4 h5 kk) (fun c33 => ?_)
    refine gl_tsw (k := 34) (tgt := 1381) C dL_law_33 (by decide) (by decide) rfl (by decide) (lc_read C (hS.2.2.2.2.2.2.2.2.2.2.2.2.2.2.2.2.2.2.2.2.2.2.2.2.2.2.2.2.2.2.2.2.2.2.1) hR h1 h2 h3 h4 h5 kk) (fun c34 => ?_)
    refine gl_tsw (k := 35) (tgt := 1414) C dL_law_33 (by decide) (by decide) rfl (by decide) (lc_image C (hS.2.2.2.2.2.2.2.2.2.2.2.2.2.2.2.2.2.2.2.2.2.2.2.2.2.2.2.2.2.2.2.2.2.2.2.1) hR h1 h2 h3 h4 h5 kk) (fun c35 => ?_)
    refine gl_tsw (k := 36) (tgt := 1427) C dL_law_33 (by decide) (by decide) rfl (by decide) (lc_undo C (hS.2.2.2.2.2.2.2.2.2.2.2.2.2.2.2.2.2.2.2.2.2.2.2.2.2.2.2.2.2.2.2.2.2.2.2.2.1) hR h1 h2 h3 h4 h5 kk) (fun c36 => ?_)
    refine gl_tsw (k := 37) (tgt := 1440) C dL_law_33 (by decide) (by decide) rfl (by decide) (lc_tear C (hS.2.2.2.2.2.2.2.2.2.2.2.2.2.2.2.2.2.2.2.2.2.2.2.2.2.2.2.2.2.2.2.2.2.2.2.2.2.1) hR h1 h2 h3 h4 h5 kk) (fun c37 => ?_)
    refine gl_tsw (k := 38) (tgt := 1453) C dL_law_33 (by decide) (by decide) rfl (by decide) (lc_count C (hS.2.2.2.2.2.2.2.2.2.2.2.2.2.2.2.2.2.2.2.2.2.2.2.2.2.2.2.2.2.2.2.2.2.2.2.2.2.2.1) hR h1 h2 h3 h4 h5 kk) (fun c38 => ?_)
    refine gl_tsw (k := 39) (tgt := 1476) C dL_law_33 (by decide) (by decide) rfl (by decide) (lc_status C (hS.2.2.2.2.2.2.2.2.2.2.2.2.2.2.2.2.2.2.2.2.2.2.2.2.2.2.2.2.2.2.2.2.2.2.2.2.2.2.2) hR h1 h2 h3 h4 h5 kk) (fun c39 => ?_)
    refine gl_tswd (tgt := 1499) C dL_law_33 (sw_out (lo := 0) (hi := 39) (n := 40) w [0, 1, 2, 3, 4, 5, 6, 7, 8, 9, 10, 11, 12, 13, 14, 15, 16, 17, 18, 19, 20, 21, 22, 23, 24, 25, 26, 27, 28, 29, 30, 31, 32, 33, 34, 35, 36, 37, 38, 39] (by decide +kernel) rfl (List.forall_mem_cons.mpr ⟨c0, List.forall_mem_cons.mpr ⟨c1, List.forall_mem_cons.mpr ⟨c2, List.forall_mem_cons.mpr ⟨c3, List.forall_mem_cons.mpr ⟨c4, List.forall_mem_cons.mpr ⟨c5, List.forall_mem_cons.mpr ⟨c6, List.forall_mem_cons.mpr ⟨c7, List.forall_mem_cons.mpr ⟨c8, List.forall_mem_cons.mpr ⟨c9, List.forall_mem_cons.mpr ⟨c10, List.forall_mem_cons.mpr ⟨c11, List.forall_mem_cons.mpr ⟨c12, List.forall_mem_cons.mpr ⟨c13, List.forall_mem_cons.mpr ⟨c14, List.forall_mem_cons.mpr ⟨c15, List.forall_mem_cons.mpr ⟨c16, List.forall_mem_cons.mpr ⟨c17, List.forall_mem_cons.mpr ⟨c18, List.forall_mem_cons.mpr ⟨c19, List.forall_mem_cons.mpr ⟨c20, List.forall_mem_cons.mpr ⟨c21, List.forall_mem_cons.mpr ⟨c22, List.forall_mem_cons.mpr ⟨c23, List.forall_mem_cons.mpr ⟨c24, List.forall_mem_cons.mpr ⟨c25, List.forall_mem_cons.mpr ⟨c26, List.forall_mem_cons.mpr ⟨c27, List.forall_mem_cons.mpr ⟨c28, List.forall_mem_cons.mpr ⟨c29, List.forall_mem_cons.mpr ⟨c30, List.forall_mem_cons.mpr ⟨c31, List.forall_mem_cons.mpr ⟨c32, List.forall_mem_cons.mpr ⟨c33, List.forall_mem_cons.mpr ⟨c34, List.forall_mem_cons.mpr ⟨c35, List.forall_mem_cons.mpr ⟨c36, List.forall_mem_cons.mpr ⟨c37, List.forall_mem_cons.mpr ⟨c38, List.forall_mem_cons.mpr ⟨c39, fun _ h => absurd h List.not_mem_nil⟩⟩⟩⟩⟩⟩⟩⟩⟩⟩⟩⟩⟩⟩⟩⟩⟩⟩⟩⟩⟩⟩⟩⟩⟩⟩⟩⟩⟩⟩⟩⟩⟩⟩⟩⟩⟩⟩⟩⟩)) (by decide) ?_
    exact kk Mx Nx Mm Nm hR
end LOOP
set_option maxHeartbeats 4000000 in
set_option maxRecDepth 20000 in
theorem whole_of {Rel : Mi → Ml → Mi → Ml → Prop} (hR0 : Rel Mx0 N0 Mm0 N0) (hS : Sims Rel) {p : Program} {e : Env} {s : State} {m : MethodId} {below : List Frame} {meth : Method} {c : Code} (l : Launch) {b L : Nat} {xs : Nat → Int32} (hL : L ≤ 3072) (C0 : lw_At p s m meth c b L xs) : W p l e room_1 s m #[Value.ref b] below meth c s.heap [] 0 0 (lw_Z below #[Value.ref b] s) (entryFrame m ([Value.ref b] : List Value).toArray 4) := by
  obtain ⟨hx, hb, hr, hml, hown, hts, hX, hbl, hlocks, hgv⟩ := C0
  obtain ⟨D, cy, hK⟩ := ka0 hts
  obtain ⟨K, V, ka, hSt⟩ := sta0 cy hts hgv
  have hE : ∃ E : Ec, E = (p, l, e, room_1, s, m, #[Value.ref b], below, meth, c) := ⟨_, rfl⟩
  obtain ⟨E, rfl⟩ := hE
  have C : OkA D cy (p, l, e, room_1, s, m, #[Value.ref b], below, meth, c) code 4 RL 12 49 1006 := ⟨hx, hb, hml, hown, fun w hw => hts w (base_tbl hw), ⟨Nat.le_of_ble_eq_true rfl, Nat.le_of_ble_eq_true rfl, Nat.le_of_ble_eq_true rfl, Nat.le_of_ble_eq_true rfl⟩, hK⟩
  have CL : OkL D cy K V ka (p, l, e, room_1, s, m, #[Value.ref b], below, meth, c) b L xs := ⟨hx, hb, hml, hown, fun w hw => hts w (base_tbl hw), rfl, hK, hSt, hX, hbl⟩
  have hex : ∀ (x3 : Int32) (Mx : Mi) (Nx : Ml) (Mm : Mi) (Nm : Ml), GL D cy K V ka (p, l, e, room_1, s, m, #[Value.ref b], below, meth, c) (lw_Z below #[Value.ref b] s) 1505 [(0, .ref b), (1, .ref (zA (zXE D cy K V ka (p, l, e, room_1, s, m, #[Value.ref b], below, meth, c)) 8 0)), (2, .ref (zA (zME D cy (p, l, e, room_1, s, m, #[Value.ref b], below, meth, c)) 6 0)), (3, .int x3)] [] Mx Nx Mm Nm := by
    intro x3 Mx Nx Mm Nm H locs ls h1 h2 h3 h4 h5 h6
    refine lv_iconst (v := 1) hx hb dL_law_1505 (by decide) ?_
    refine va_forget (fun q hq => h5 q hq) ?_
    refine W.widen (k := 600000) (n := 7302249) (Nat.le_of_ble_eq_true rfl) (Nat.le_of_ble_eq_true rfl) ?_
    exact lw_ret hx hb hr hlocks dL_law_1506
  have hl := lv_entry ([.ref b]) (n := 4) (Nat.le_of_ble_eq_true rfl)
  rw [lg_entry_eq]
  have key : GA D (p, l, e, room_1, s, m, #[Value.ref b], below, meth, c) 4 s.heap.size (lw_Z below #[Value.ref b] s) 0 [(0, .ref b)] [] [] 0 0 := by
    refine ga_new (n0 := s.heap.size) (ci := 4) (fs := [.null, .null, .null, .null, .null, .null, .null, .int 0]) (a := s.heap.size) (cs' := [.inr (4, [.null, .null, .null, .null, .null, .null, .null, .int 0])]) C us_X4 tyX4 tyX4_ok wd_93 wd_94 wd_80 rfl (by decide +kernel) (by decide) (by decide) dL_law_0 rfl rfl ?_
    refine ga_dup C dL_law_3 rfl ?_
    refine ga_callI (cs := []) (cs1 := ctX4 cy s.heap.size) C (mX4_init D cy l s.heap.size) wd_97 wd_80 wd_96 wd_95 ⟨rfl, by decide, by decide, by decide +kernel⟩ (by decide) (by decide) (Nat.le_of_ble_eq_true rfl) dL_law_4 (by decide) (by decide) rfl rfl ?_
    refine ga_astore_n (lv' := [(1, .ref s.heap.size), (0, .ref b)]) C dL_law_7 1 rfl (by decide) rfl ?_
    refine ga_new (ci := 5) (fs := [.null, .null, .null, .null, .null, .int 0, .int 0, .null, .int 0, .int 0, .int 0, .int 0, .int 0, .null, .null, .null, .null]) (a := s.heap.size + 38) (cs' := ctX4 cy s.heap.size ++ [.inr (5, [.null, .null, .null, .null, .null, .int 0, .int 0, .null, .int 0, .int 0, .int 0, .int 0, .int 0, .null, .null, .null, .null])]) C us_X5 tyX5 tyX5_ok wd_790 wd_791 wd_85 rfl (by decide +kernel) (by decide) (by decide) dL_law_8 rfl rfl ?_
    refine ga_dup C dL_law_11 rfl ?_
    refine ga_callI (cs := ctX4 cy s.heap.size) (cs1 := ctX4 cy s.heap.size ++ ctX5 cy (s.heap.size + 38)) C (mX5_init D cy l (s.heap.size + 38)) wd_794 wd_85 wd_793 wd_792 ⟨rfl, by decide, by decide, by decide +kernel⟩ (by decide) (by decide) (Nat.le_of_ble_eq_true rfl) dL_law_12 (by decide) (by decide) rfl rfl ?_
    refine ga_astore_n (lv' := [(2, .ref (s.heap.size + 38)), (1, .ref s.heap.size), (0, .ref b)]) C dL_law_15 2 rfl (by decide) rfl ?_
    refine ga_iconst (v := 0) C dL_law_16 (by decide) ?_
    refine ga_istore_n (lv' := [(3, .int 0), (2, .ref (s.heap.size + 38)), (1, .ref s.heap.size), (0, .ref b)]) C dL_law_17 3 rfl (by decide) rfl ?_
    intro H locs ls h1 h2 h3 h4
    exact law_loop CL hS hL hex (L + 7) 0 (by omega) (by omega) Mx0 N0 Mm0 N0 hR0 H locs ls (rep0X h1) (rep0M h1) h1.1 h2 h3 (lv_sub h4 [3, 2, 1, 0] rfl)
  exact key s.heap [] _ ⟨rfl, fun i e hi => by cases hi⟩ (fun _ _ => rfl) (fun _ h => by cases h) hl
