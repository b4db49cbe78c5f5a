/-! the law's loop -/
abbrev eN (E : Ec) : Nat := (eS E).heap.size
def OkL (D : va_G) (cy : Nat → ClassId) (K V : Nat → Nat) (ka : Nat) (E : Ec) (b L : Nat) (xs : Nat → Int32) : Prop :=
  E.1.tables.exec = Jvm.exec ∧ E.2.2.2.2.2.2.2.2.2.code = code ∧ E.2.2.2.2.2.2.2.2.2.maxLocals = 4 ∧ (eS E).vm.findClass RL = some (eM E).cls ∧ (∀ w ∈ base, w.before E.2.2.2.2.2.2.1 (eS E) = true) ∧ E.2.2.2.1 = room_1 ∧ KA D cy (eS E) ∧ StaX (aX (eN E) K V ka) (InX cy (aX (eN E) K V ka)) (eS E) ∧ va_X b L xs (eS E) (eS E).heap ∧ b < eN E
abbrev zXE (D : va_G) (cy : Nat → ClassId) (K V : Nat → Nat) (ka : Nat) (E : Ec) : Zt := zX D cy (eN E) K V ka
abbrev zME (D : va_G) (cy : Nat → ClassId) (E : Ec) : Zt := zM D cy (eN E)
def GL (D : va_G) (cy : Nat → ClassId) (K V : Nat → Nat) (ka : Nat) (E : Ec) (Q : State → Prop) (pc : Nat) (lv : List (Nat × Value)) (st : List Value) (Mx : Mi) (Nx : Ml) (Mm : Mi) (Nm : Ml) : Prop :=
  ∀ (H : Heap) (locs : List Loc) (ls : Array Slot), Rep (zXE D cy K V ka E) Mx Nx H → Rep (zME D cy E) Mm Nm H → H.size = eN E + 49 → (∀ q : Nat, q < eN E → H[q]? = (eS E).heap[q]?) → (∀ q ∈ locs, eN E ≤ q.base) → lv_has ls 4 lv →
    W E.1 E.2.1 E.2.2.1 E.2.2.2.1 E.2.2.2.2.1 E.2.2.2.2.2.1 E.2.2.2.2.2.2.1 E.2.2.2.2.2.2.2.1 E.2.2.2.2.2.2.2.2.1 E.2.2.2.2.2.2.2.2.2 H locs 49 1006 Q (F0 (eM E) pc ls st)
section GLROWS
variable {D : va_G} {cy : Nat → ClassId} {K V : Nat → Nat} {ka : Nat} {E : Ec} {b L : Nat} {xs : Nat → Int32} {Q : State → Prop} {pc : Nat} {lv lv' : List (Nat × Value)} {st rest : List Value} {Mx Mm Mx' Mm' : Mi} {Nx Nm Nx' Nm' : Ml}
theorem OkL.x (C : OkL D cy K V ka E b L xs) : E.1.tables.exec = Jvm.exec := C.1
theorem OkL.cd (C : OkL D cy K V ka E b L xs) : E.2.2.2.2.2.2.2.2.2.code = code := C.2.1
theorem OkL.ml (C : OkL D cy K V ka E b L xs) : E.2.2.2.2.2.2.2.2.2.maxLocals = 4 := C.2.2.1
theorem OkL.ow (C : OkL D cy K V ka E b L xs) : (eS E).vm.findClass RL = some (eM E).cls := C.2.2.2.1
theorem OkL.ts (C : OkL D cy K V ka E b L xs) : ∀ w ∈ base, w.before E.2.2.2.2.2.2.1 (eS E) = true := C.2.2.2.2.1
theorem OkL.rm (C : OkL D cy K V ka E b L xs) : E.2.2.2.1 = room_1 := C.2.2.2.2.2.1
theorem OkL.kq (C : OkL D cy K V ka E b L xs) : KA D cy (eS E) := C.2.2.2.2.2.2.1
theorem OkL.sta (C : OkL D cy K V ka E b L xs) : StaX (aX (eN E) K V ka) (InX cy (aX (eN E) K V ka)) (eS E) := C.2.2.2.2.2.2.2.1
theorem OkL.scr (C : OkL D cy K V ka E b L xs) : va_X b L xs (eS E) (eS E).heap := C.2.2.2.2.2.2.2.2.1
theorem OkL.bl (C : OkL D cy K V ka E b L xs) : b < eN E := C.2.2.2.2.2.2.2.2.2
theorem gl_iconst {n : Int} {v : Int32} (C : OkL D cy K V ka E b L xs) (hd : decode code pc = .ok (.iconst n, 1)) (hv : Int32.ofInt n = v) (k : GL D cy K V ka E Q (pc + 1) lv (.int v :: rest) Mx Nx Mm Nm) : GL D cy K V ka E Q pc lv (rest) Mx Nx Mm Nm :=
  fun H locs ls h1 h2 h3 h4 h5 h6 => lv_iconst C.x C.cd hd hv (k H locs ls h1 h2 h3 h4 h5 h6)
theorem gl_bipush {n : Int} {v : Int32} (C : OkL D cy K V ka E b L xs) (hd : decode code pc = .ok (.bipush n, 2)) (hv : (Int8.ofInt n).toInt32 = v) (k : GL D cy K V ka E Q (pc + 2) lv (.int v :: rest) Mx Nx Mm Nm) : GL D cy K V ka E Q pc lv (rest) Mx Nx Mm Nm :=
  fun H locs ls h1 h2 h3 h4 h5 h6 => lv_bipush C.x C.cd hd hv (k H locs ls h1 h2 h3 h4 h5 h6)
theorem gl_ldc2 {i : Nat} {v : Int64} (C : OkL D cy K V ka E b L xs) (hd : decode code pc = .ok (.ldc2_w i, 3)) (hw : Cond.constantLong RL i v ∈ base) (k : GL D cy K V ka E Q (pc + 3) lv (.long v :: rest) Mx Nx Mm Nm) : GL D cy K V ka E Q pc lv (rest) Mx Nx Mm Nm :=
  fun H locs ls h1 h2 h3 h4 h5 h6 => lv_ldc2 C.x C.cd C.ow (C.ts _ hw) hd (k H locs ls h1 h2 h3 h4 h5 h6)
theorem gl_iload_n {q : Fin 4} {x : Int32} (C : OkL D cy K V ka E b L xs) (hd : decode code pc = .ok (.iload_n q, 1)) (i j : Nat) (hi : (q : Nat) = i) (hl : lv[j]? = some (i, .int x)) (k : GL D cy K V ka E Q (pc + 1) lv (.int x :: rest) Mx Nx Mm Nm) : GL D cy K V ka E Q pc lv (rest) Mx Nx Mm Nm :=
  fun H locs ls h1 h2 h3 h4 h5 h6 => lv_iload_n C.x C.cd hd hi (lv_at h6 j hl) (k H locs ls h1 h2 h3 h4 h5 h6)
theorem gl_aload_n {q : Fin 4} {x : Nat} (C : OkL D cy K V ka E b L xs) (hd : decode code pc = .ok (.aload_n q, 1)) (i j : Nat) (hi : (q : Nat) = i) (hl : lv[j]? = some (i, .ref x)) (k : GL D cy K V ka E Q (pc + 1) lv (.ref x :: rest) Mx Nx Mm Nm) : GL D cy K V ka E Q pc lv (rest) Mx Nx Mm Nm :=
  fun H locs ls h1 h2 h3 h4 h5 h6 => lv_aload_n C.x C.cd hd hi (lv_at h6 j hl) (k H locs ls h1 h2 h3 h4 h5 h6)
theorem gl_iadd {x y : Int32} (C : OkL D cy K V ka E b L xs) (hd : decode code pc = .ok (.iadd, 1))  (k : GL D cy K V ka E Q (pc + 1) lv (.int (x + y) :: rest) Mx Nx Mm Nm) : GL D cy K V ka E Q pc lv (.int y :: .int x :: rest) Mx Nx Mm Nm :=
  fun H locs ls h1 h2 h3 h4 h5 h6 => lv_iadd C.x C.cd hd (k H locs ls h1 h2 h3 h4 h5 h6)
theorem gl_isub {x y : Int32} (C : OkL D cy K V ka E b L xs) (hd : decode code pc = .ok (.isub, 1))  (k : GL D cy K V ka E Q (pc + 1) lv (.int (x - y) :: rest) Mx Nx Mm Nm) : GL D cy K V ka E Q pc lv (.int y :: .int x :: rest) Mx Nx Mm Nm :=
  fun H locs ls h1 h2 h3 h4 h5 h6 => lv_isub C.x C.cd hd (k H locs ls h1 h2 h3 h4 h5 h6)
theorem gl_iand {x y : Int32} (C : OkL D cy K V ka E b L xs) (hd : decode code pc = .ok (.iand, 1))  (k : GL D cy K V ka E Q (pc + 1) lv (.int (x &&& y) :: rest) Mx Nx Mm Nm) : GL D cy K V ka E Q pc lv (.int y :: .int x :: rest) Mx Nx Mm Nm :=
  fun H locs ls h1 h2 h3 h4 h5 h6 => lv_iand C.x C.cd hd (k H locs ls h1 h2 h3 h4 h5 h6)
theorem gl_land {x y : Int64} (C : OkL D cy K V ka E b L xs) (hd : decode code pc = .ok (.land, 1))  (k : GL D cy K V ka E Q (pc + 1) lv (.long (x &&& y) :: rest) Mx Nx Mm Nm) : GL D cy K V ka E Q pc lv (.long y :: .long x :: rest) Mx Nx Mm Nm :=
  fun H locs ls h1 h2 h3 h4 h5 h6 => lv_land C.x C.cd hd (k H locs ls h1 h2 h3 h4 h5 h6)
theorem gl_lor {x y : Int64} (C : OkL D cy K V ka E b L xs) (hd : decode code pc = .ok (.lor, 1))  (k : GL D cy K V ka E Q (pc + 1) lv (.long (x ||| y) :: rest) Mx Nx Mm Nm) : GL D cy K V ka E Q pc lv (.long y :: .long x :: rest) Mx Nx Mm Nm :=
  fun H locs ls h1 h2 h3 h4 h5 h6 => lv_lor C.x C.cd hd (k H locs ls h1 h2 h3 h4 h5 h6)
theorem gl_lshl {x v : Int64} {y : Int32} (C : OkL D cy K V ka E b L xs) (hd : decode code pc = .ok (.lshl, 1)) (hv : x <<< (y.toInt64 &&& 63) = v) (k : GL D cy K V ka E Q (pc + 1) lv (.long v :: rest) Mx Nx Mm Nm) : GL D cy K V ka E Q pc lv (.int y :: .long x :: rest) Mx Nx Mm Nm :=
  fun H locs ls h1 h2 h3 h4 h5 h6 => lv_lshl C.x C.cd hd hv (k H locs ls h1 h2 h3 h4 h5 h6)
theorem gl_i2l {x : Int32} (C : OkL D cy K V ka E b L xs) (hd : decode code pc = .ok (.i2l, 1))  (k : GL D cy K V ka E Q (pc + 1) lv (.long x.toInt64 :: rest) Mx Nx Mm Nm) : GL D cy K V ka E Q pc lv (.int x :: rest) Mx Nx Mm Nm :=
  fun H locs ls h1 h2 h3 h4 h5 h6 => lv_i2l C.x C.cd hd rfl (k H locs ls h1 h2 h3 h4 h5 h6)
theorem gl_iinc {i : Nat} {n : Int} {x v : Int32} (C : OkL D cy K V ka E b L xs) (hd : decode code pc = .ok (.iinc i n, 3)) (j : Nat) (hj : lv[j]? = some (i, .int x)) (hv : x + Int32.ofInt n = v) (hn : i < 4) (hl : (i, Value.int v) :: lv.filter (fun q => !(q.1 == i) && !(q.1 + 1 == i && q.2.category == 2)) = lv') (k : GL D cy K V ka E Q (pc + 3) lv' (rest) Mx Nx Mm Nm) : GL D cy K V ka E Q pc lv (rest) Mx Nx Mm Nm :=
  fun H locs ls h1 h2 h3 h4 h5 h6 => lv_iinc C.x C.cd hd h6 hj hv hn hl (fun ls2 h7 => k H locs ls2 h1 h2 h3 h4 h5 h7)
theorem gl_goto {off : Int} {tgt : Nat} (C : OkL D cy K V ka E b L xs) (hd : decode code pc = .ok (.goto off, 3)) (ht : (pc : Int) + off = (tgt : Int)) (k : GL D cy K V ka E Q tgt lv (st) Mx Nx Mm Nm) : GL D cy K V ka E Q pc lv (st) Mx Nx Mm Nm :=
  fun H locs ls h1 h2 h3 h4 h5 h6 => lv_goto C.x C.cd hd ht (k H locs ls h1 h2 h3 h4 h5 h6)
theorem gl_lv (ks : List Nat) (hl : lv_pick lv ks = lv') (k : GL D cy K V ka E Q pc lv' (st) Mx Nx Mm Nm) : GL D cy K V ka E Q pc lv (st) Mx Nx Mm Nm :=
  fun H locs ls h1 h2 h3 h4 h5 h6 => k H locs ls h1 h2 h3 h4 h5 (lv_sub h6 ks hl)
theorem gl_gt {x y : Int32} {off : Int} {tgt : Nat} (C : OkL D cy K V ka E b L xs) (hd : decode code pc = .ok (.if_icmp .gt off, 3)) (ht : (pc : Int) + off = (tgt : Int)) (kt : y < x → GL D cy K V ka E Q tgt lv (rest) Mx Nx Mm Nm) (kf : ¬ y < x → GL D cy K V ka E Q (pc + 3) lv (rest) Mx Nx Mm Nm) : GL D cy K V ka E Q pc lv (.int y :: .int x :: rest) Mx Nx Mm Nm :=
  fun H locs ls h1 h2 h3 h4 h5 h6 => lv_icmp_gt C.x C.cd hd ht (fun q => kt q H locs ls h1 h2 h3 h4 h5 h6) (fun q => kf q H locs ls h1 h2 h3 h4 h5 h6)
theorem gl_eq {x y : Int32} {off : Int} {tgt : Nat} (C : OkL D cy K V ka E b L xs) (hd : decode code pc = .ok (.if_icmp .eq off, 3)) (ht : (pc : Int) + off = (tgt : Int)) (he : x = y) (kt : GL D cy K V ka E Q tgt lv (rest) Mx Nx Mm Nm) : GL D cy K V ka E Q pc lv (.int y :: .int x :: rest) Mx Nx Mm Nm :=
  fun H locs ls h1 h2 h3 h4 h5 h6 => lv_icmp_eq C.x C.cd hd ht (fun q => kt H locs ls h1 h2 h3 h4 h5 h6) (fun q => absurd he q)
theorem gl_leq {x y : Int64} {off : Int} {tgt : Nat} (C : OkL D cy K V ka E b L xs) (hl : decode code pc = .ok (.lcmp, 1)) (hd : decode code (pc + 1) = .ok (.ifCond .eq off, 3)) (ht : ((pc + 1 : Nat) : Int) + off = (tgt : Int)) (he : x = y) (kt : GL D cy K V ka E Q tgt lv (rest) Mx Nx Mm Nm) : GL D cy K V ka E Q pc lv (.long y :: .long x :: rest) Mx Nx Mm Nm :=
  fun H locs ls h1 h2 h3 h4 h5 h6 => W.lcmp C.x C.cd hl (lv_if_eq C.x C.cd hd ht (fun q => kt H locs ls h1 h2 h3 h4 h5 h6) (fun q => absurd ((lg_cmp_eq x y).mpr he) q))
theorem gl_S {H : Heap} {locs : List Loc} (h3 : H.size = eN E + 49) (h4 : ∀ q : Nat, q < eN E → H[q]? = (eS E).heap[q]?) (h5 : ∀ q ∈ locs, eN E ≤ q.base) : va_S (fun q => eN E ≤ q) (eS E).heap H locs := ⟨by rw [h3]; exact Nat.le_add_right _ _, fun q hq _ => h4 q hq, h5⟩
theorem gl_sld {i : Int32} (C : OkL D cy K V ka E b L xs) (hin : inb i L) (hd : decode code pc = .ok (.iaload, 1)) (k : GL D cy K V ka E Q (pc + 1) lv (.int (xs (ix i)) :: rest) Mx Nx Mm Nm) : GL D cy K V ka E Q pc lv (.int i :: .ref b :: rest) Mx Nx Mm Nm :=
  fun H locs ls h1 h2 h3 h4 h5 h6 => va_sld C.x C.cd C.scr C.bl (Nat.not_le.mpr C.bl) (gl_S h3 h4 h5) (inb_in hin) hd (k H locs ls h1 h2 h3 h4 h5 h6)
theorem gl_slen (C : OkL D cy K V ka E b L xs) (hd : decode code pc = .ok (.arraylength, 1)) (k : GL D cy K V ka E Q (pc + 1) lv (.int (Int32.ofNat L) :: rest) Mx Nx Mm Nm) : GL D cy K V ka E Q pc lv (.ref b :: rest) Mx Nx Mm Nm :=
  fun H locs ls h1 h2 h3 h4 h5 h6 => va_slen C.x C.cd C.scr C.bl (Nat.not_le.mpr C.bl) (gl_S h3 h4 h5) hd (k H locs ls h1 h2 h3 h4 h5 h6)
theorem gl_tsw {dflt lo hi : Int} {offs : Array Int} {len : Nat} {x k : Int32} {off : Int} {tgt : Nat} (C : OkL D cy K V ka E b L xs) (hd : decode code pc = .ok (.tableswitch dflt lo hi offs, len)) (hk1 : ¬ k.toInt < lo) (hk2 : ¬ hi < k.toInt) (ho : offs[(k.toInt - lo).toNat]? = some off) (ht : (pc : Int) + off = (tgt : Int)) (kt : GL D cy K V ka E Q tgt lv (rest) Mx Nx Mm Nm) (kf : ¬ x = k → GL D cy K V ka E Q pc lv (.int x :: rest) Mx Nx Mm Nm) : GL D cy K V ka E Q pc lv (.int x :: rest) Mx Nx Mm Nm := by
  intro H locs ls h1 h2 h3 h4 h5 h6
  by_cases hc : x = k
  · subst hc
    exact lv_tableIn C.x C.cd hd hk1 hk2 ho ht (kt H locs ls h1 h2 h3 h4 h5 h6)
  · exact kf hc H locs ls h1 h2 h3 h4 h5 h6
theorem gl_tswd {dflt lo hi : Int} {offs : Array Int} {len : Nat} {x : Int32} {tgt : Nat} (C : OkL D cy K V ka E b L xs) (hd : decode code pc = .ok (.tableswitch dflt lo hi offs, len)) (hx : x.toInt < lo ∨ hi < x.toInt) (ht : (pc : Int) + dflt = (tgt : Int)) (kt : GL D cy K V ka E Q tgt lv (rest) Mx Nx Mm Nm) : GL D cy K V ka E Q pc lv (.int x :: rest) Mx Nx Mm Nm :=
  fun H locs ls h1 h2 h3 h4 h5 h6 => lv_tableOut C.x C.cd hd hx ht (kt H locs ls h1 h2 h3 h4 h5 h6)
theorem gl_rm {h' maxL : Nat} (C : OkL D cy K V ka E b L xs) (hm : maxL ≤ 11) (hh : h' < 12) : (rmH h').frames + 1 ≤ E.2.2.2.1.frames ∧ 8 + (maxL + 11) + (rmH h').locals ≤ E.2.2.2.1.locals := by
  rw [C.rm]
  refine ⟨by show h' + 1 ≤ 12; omega, ?_⟩
  show 8 + (maxL + 11) + 30 * h' ≤ 442
  omega
theorem gl_cl (C : OkL D cy K V ka E b L xs) : 49 + 0 ≤ E.2.2.2.1.cells ∧ 1006 + 0 ≤ E.2.2.2.1.slots := by rw [C.rm]; exact ⟨Nat.le_of_ble_eq_true rfl, Nat.le_of_ble_eq_true rfl⟩
theorem gl_notX {q : Nat} (h : InA (zME D cy E) q) : ¬ InA (zXE D cy K V ka E) q := fun z => by have z1 := (inX_ge z).2; have := (inM_ge h).1; omega
theorem gl_kept {Z : Zt} {M : Mi} {N : Ml} {H H1 : Heap} (h : Rep Z M N H) (hq : ∀ q : Nat, InA Z q → H1[q]? = H[q]?) : Rep Z M N H1 := fun g p e he => (h g p e he).kept (hq _ ⟨g, p, _, _, e, he, rfl⟩)
theorem gl_after {Z : Zt} {H : Heap} {locs : List Loc} {ls : Array Slot} {s0 : List Value} {a0 : Array Value} {r : Option Value × Mi × Ml} (hr : va_Run E.1 E.2.1 E.2.2.1 E.2.2.2.1 E.2.2.2.2.1 E.2.2.2.2.2.1 E.2.2.2.2.2.2.1 E.2.2.2.2.2.2.2.1 E.2.2.2.2.2.2.2.2.1 E.2.2.2.2.2.2.2.2.2 H locs 49 1006 0 0 (F0 (eM E) pc ls s0) rest (qo Z r a0) (InA Z))
    (kk : ∀ (H1 : Heap) (L : List Loc), Rep Z r.2.1 r.2.2 H1 → Fr Z H H1 → (∀ q ∈ L, InA Z q.base) → W E.1 E.2.1 E.2.2.1 E.2.2.2.1 E.2.2.2.2.1 E.2.2.2.2.2.1 E.2.2.2.2.2.2.1 E.2.2.2.2.2.2.2.1 E.2.2.2.2.2.2.2.2.1 E.2.2.2.2.2.2.2.2.2 H1 (locs ++ L) 49 1006 Q (F0 (eM E) (pc + 3) ls (r.1.toList ++ rest))) : W E.1 E.2.1 E.2.2.1 E.2.2.2.1 E.2.2.2.2.1 E.2.2.2.2.2.1 E.2.2.2.2.2.2.1 E.2.2.2.2.2.2.2.1 E.2.2.2.2.2.2.2.2.1 E.2.2.2.2.2.2.2.2.2 H locs 49 1006 Q (F0 (eM E) pc ls s0) := by
  intro T hT X
  obtain ⟨v, st₀, t, T', L, h0, X', hL, e1, e2, ⟨hv, hR, hF⟩, st⟩ := hr T hT X
  cases hv
  obtain ⟨t2, a1, b1⟩ := kk t.heap L hR (by rw [← h0]; exact hF) hL T' e1 X'
  exact ⟨t2, st t2 a1, b1⟩
theorem gl_inX {q : Nat} (h : InA (zXE D cy K V ka E) q) : eN E ≤ q := (inX_ge h).1
theorem gl_inM {q : Nat} (h : InA (zME D cy E) q) : eN E ≤ q := by have := (inM_ge h).1; omega
theorem gl_callX {y : MethodName} {bytes : ByteArray} {maxL h' idx n : Nat} {rt : Option FieldType} {As : List Value} {rv : Option Value} (C : OkL D cy K V ka E b L xs) (hM : Ct 1 (zXE D cy K V ka E) (eL E) y bytes maxL rt h' (.ref (zA (zXE D cy K V ka E) 8 0) :: As) Mx Nx (rv, Mx', Nx')) (hk : LkV RL idx y bytes maxL rt n) (hy : y.cls = RX4) (hh : h' < 12) (hn : As.length = n) (hst : st = As.reverse ++ .ref (zA (zXE D cy K V ka E) 8 0) :: rest) (hW : (rest.map fun v => v.category).sum ≤ 8) (hd : decode code pc = .ok (.invokevirtual idx, 3)) {st2 : List Value} (hr2 : rv.toList ++ rest = st2)
    (kk : GL D cy K V ka E Q (pc + 3) lv (st2) Mx' Nx' Mm Nm) : GL D cy K V ka E Q pc lv (st) Mx Nx Mm Nm := by
  intro H locs ls h1 h2 h3 h4 h5 h6
  subst hst; subst hr2
  refine gl_after (Z := zXE D cy K V ka E) (r := (rv, Mx', Nx')) (va_runV (As := As) (rest := rest) (n := n) ⟨C.x, C.cd, C.ml, C.ow, C.ts⟩ hM (cwV n C.ts (good_base (ws := []) _ hk.1) rfl rfl rfl ⟨rfl, hk.2.1⟩ (gl_rm C hk.2.2 hh)) ⟨pcZ_blind, ?_, ?_⟩ rfl hn h6.1 rfl (lv_room hW) hd (gl_cl C)) (fun H1 L g1 g2 g3 => ?_)
  · rw [hy]
    exact va_recv (q0 := 0) (ci := 4) C.kq.1.1 (sing (h1 8 0 _ rfl)) rfl rfl
  · exact fun U hU hW => ⟨rfl, by rw [hU]; exact h1, C.kq.1.warm hW, StaX.move hW (fun q hq _ => by rw [hU]; exact h4 q hq) C.sta, okX⟩
  · refine kk H1 _ ls g1 (gl_kept h2 (fun q hq => g2.2 q (gl_notX hq))) (g2.1.trans h3) (fun q hq => (g2.2 q (fun z => by have := gl_inX z; omega)).trans (h4 q hq)) (fun q hq => (List.mem_append.mp hq).elim (h5 q) (fun z => gl_inX (g3 q z))) h6
theorem gl_callM {y : MethodName} {bytes : ByteArray} {maxL h' idx n : Nat} {rt : Option FieldType} {As : List Value} {rv : Option Value} (C : OkL D cy K V ka E b L xs) (hM : Ct 2 (zME D cy E) (eL E) y bytes maxL rt h' (.ref (zA (zME D cy E) 6 0) :: As) Mm Nm (rv, Mm', Nm')) (hk : LkV RL idx y bytes maxL rt n) (hy : y.cls = RX5) (hh : h' < 12) (hn : As.length = n) (hst : st = As.reverse ++ .ref (zA (zME D cy E) 6 0) :: rest) (hW : (rest.map fun v => v.category).sum ≤ 8) (hd : decode code pc = .ok (.invokevirtual idx, 3)) {st2 : List Value} (hr2 : rv.toList ++ rest = st2)
    (kk : GL D cy K V ka E Q (pc + 3) lv (st2) Mx Nx Mm' Nm') : GL D cy K V ka E Q pc lv (st) Mx Nx Mm Nm := by
  intro H locs ls h1 h2 h3 h4 h5 h6
  subst hst; subst hr2
  refine gl_after (Z := zME D cy E) (r := (rv, Mm', Nm')) (va_runV (As := As) (rest := rest) (n := n) ⟨C.x, C.cd, C.ml, C.ow, C.ts⟩ hM (cwV n C.ts (good_base (ws := []) _ hk.1) rfl rfl rfl ⟨rfl, hk.2.1⟩ (gl_rm C hk.2.2 hh)) ⟨pcZ_blind, ?_, ?_⟩ rfl hn h6.1 rfl (lv_room hW) hd (gl_cl C)) (fun H1 L g1 g2 g3 => ?_)
  · rw [hy]
    exact va_recv (q0 := 0) (ci := 5) C.kq.1.1 (sing (h2 6 0 _ rfl)) rfl rfl
  · exact fun U hU hW => ⟨rfl, by rw [hU]; exact h2, C.kq.1.warm hW, trivial, okM⟩
  · refine kk H1 _ ls (gl_kept h1 (fun q hq => g2.2 q (fun z => gl_notX z hq))) g1 (g2.1.trans h3) (fun q hq => (g2.2 q (fun z => by have := gl_inM z; omega)).trans (h4 q hq)) (fun q hq => (List.mem_append.mp hq).elim (h5 q) (fun z => gl_inM (g3 q z))) h6
end GLROWS
