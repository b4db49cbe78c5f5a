/-! what else the walks use -/
def fu : Nat := 200
def ushr (x y : Int32) : Int32 := (x.toUInt32 >>> (y.toUInt32 &&& Int32.toUInt32 31)).toInt32
theorem sw_out {lo hi : Int} {n : Nat} (x : Int32) (ks : List Int32) (hk : ks.map Int32.toInt = (List.range n).map (fun i : Nat => lo + (i : Int))) (hh : lo + n = hi + 1) (h : ∀ k ∈ ks, ¬ x = k) : x.toInt < lo ∨ hi < x.toInt := by
  by_cases h1 : x.toInt < lo
  · exact Or.inl h1
  · refine Or.inr ?_
    by_cases h2 : hi < x.toInt
    · exact h2
    · exfalso
      have hm : x.toInt ∈ (List.range n).map (fun i : Nat => lo + (i : Int)) := List.mem_map.mpr ⟨(x.toInt - lo).toNat, List.mem_range.mpr (by omega), by omega⟩
      rw [← hk] at hm
      obtain ⟨k, hk1, hk2⟩ := List.mem_map.mp hm
      exact h k hk1 (Int32.toInt_inj.mp hk2.symm)
section MORE
variable {Z : Zt} {E : Ec} {cc : ByteArray} {nL : Nat} {own : String} {ret : Option FieldType} {h : Nat} {β : Type} {fin : β → Option Value × Mi × Ml} {pc : Nat} {lv lv' : List (Nat × Value)} {st rest : List Value} {M M' : Mi} {N N' : Ml} {t t1 t2 : Option β}
theorem r_sel {tj : Nat} {sj : List Value} (K : GT Z E nL fin tj lv sj M N t) (k : GT Z E nL fin tj lv sj M N t → GT Z E nL fin pc lv st M N t) : GT Z E nL fin pc lv st M N t := k K
theorem r_stk {v v' : Int32} (e : v' = v) (K : GT Z E nL fin pc lv (.int v' :: rest) M N t) : GT Z E nL fin pc lv (.int v :: rest) M N t := by subst e; exact K
theorem Fr.S {H0 H : Heap} {locs : List Loc} (h2 : Fr Z H0 H) (h3 : ∀ q ∈ locs, InA Z q.base) : va_S (InA Z) H0 H locs := ⟨by rw [h2.1]; exact Nat.le_refl _, fun q _ hq => h2.2 q hq, h3⟩
theorem r_kab (C : Ok 1 Z E cc nL RX4 ret h) (hd : decode cc pc = .ok (.getstatic 287, 3)) (kk : GT Z E nL fin (pc + 3) lv (.ref (zA Z 42 0) :: rest) M N t) : GT Z E nL fin pc lv rest M N t :=
  fun b hb H locs ls h1 h2 h3 h4 => va_gets C.x C.b (C.z.S _ C.sta).1 (h2.S h3) C.ow (C.ts _ wd_358) (fun _ q => q) hd (kk b hb H locs ls h1 h2 h3 h4)
theorem ald_K {i v : Int32} (C : Ok 1 Z E cc nL own ret h) (hin : inb i 6) (hv : kab (ix i) = v) (hd : decode cc pc = .ok (.iaload, 1)) (kk : GT Z E nL fin (pc + 1) lv (.int v :: rest) M N t) : GT Z E nL fin pc lv (.int i :: .ref (zA Z 42 0) :: rest) M N t :=
  fun b hb H locs ls h1 h2 h3 h4 => va_ti C.x C.b (C.z.S _ C.sta).2.1 (h2.S h3) (inb_in hin) (v := .int v) (by rw [← hv]) hd (kk b hb H locs ls h1 h2 h3 h4)
theorem r_ldcS {i k : Nat} {tx : String} (C : Ok 1 Z E cc nL RX3 ret h) (hd : decode cc pc = .ok (.ldc i, 2)) (hk : sTxt[k]? = some (i, tx)) (kk : GT Z E nL fin (pc + 2) lv (.ref (zA Z 40 k) :: rest) M N t) : GT Z E nL fin pc lv rest M N t :=
  fun b hb H locs ls h1 h2 h3 h4 => va_ldcS C.x C.b C.ow ((C.z.S _ C.sta).2.2.2.1 k i tx hk) hd (kk b hb H locs ls h1 h2 h3 h4)
theorem rvStr {w : Nat} (C : Ok 1 Z E cc nL own ret h) (hw : w < 14) : RcV Z E M N (zA Z 40 w) RJ0 := fun H _ h2 => vk_recv (locs := []) (C.z.S _ C.sta).2.2.1 hw (h2.S (fun _ q => by cases q))
theorem r_min {x y : Int32} (C : Ok 1 Z E cc nL RX3 ret h) (hh : 0 < h) (hW : (rest.map fun v => v.category).sum ≤ 8) (hd : decode cc pc = .ok (.invokestatic 134, 3)) (kk : GT Z E nL fin (pc + 3) lv (.int (if y < x then y else x) :: rest) M N t) : GT Z E nL fin pc lv (.int y :: .int x :: rest) M N t :=
  fun b hb H locs ls h1 h2 h3 h4 => va_mmin C.x C.b (C.ml.trans h4.1.symm) C.ow (C.ts _ wd_605) (C.ts _ wd_606) (C.ts _ wd_87) (C.ts _ wd_607) (by rw [C.rm]; exact hh) (by rw [C.rm]; show _ + 13 ≤ 30 * h; omega) (Nat.zero_le _) (Nat.zero_le _) hd (kk b hb H locs ls h1 h2 h3 h4)
end MORE
section COPY
variable {p : Program} {l : Launch} {e : Env} {R : Room} {s : State} {m : MethodId} {args : Array Value} {below : List Frame} {meth : Method} {c : Code} {H : Heap} {locs : List Loc} {cells slots : Nat} {Q : State → Prop}
variable {cc : ByteArray} {pc : Nat} {ls : Array Slot} {rest : List Value} {D : va_G} {cl : List vw_C} {a : Nat} {tys : List (ClassId × FieldType)}
theorem x_copyl (hexec : p.tables.exec = Jvm.exec) (hb : c.code = cc) (hml : c.maxLocals = ls.size) {own : String} {index : Nat} (hown : s.vm.findClass own = some m.cls) (hlink : (Cond.methodLink own index arraycopyName).before args s = true) (hnat : (Cond.native arraycopyName).before args s = true) (hstat : (Cond.static arraycopyName).before args s = true) (hini : (Cond.initialized "java/lang/System").before args s = true)
    (hK : va_K D cl tys s) (t0 : Nat) {a0 : Nat} {c0 : ClassId} {n0 n1 : Nat} {f g : Nat → Int64} (ha0 : va_at D cl (a0, .inl (c0, n0, .inr (.inl f))) H) (ha1 : va_at D cl (a, .inl (c0, n1, .inr (.inl g))) H) (ht0 : tys[t0]? = some (c0, .long))
    {sp dp n : Int32} (h1 : ¬ sp < 0) (h2 : ¬ dp < 0) (h3 : ¬ n < 0) (h4 : sp.toNatClampNeg + n.toNatClampNeg ≤ n0) (h5 : dp.toNatClampNeg + n.toNatClampNeg ≤ n1)
    (hframes : 1 ≤ R.frames) (hlocals : (rest.map fun v => v.category).sum + (nativeFrameWords "java/lang/System" "arraycopy" 5 + 11) ≤ R.locals) (hdg : decode cc pc = .ok (.invokestatic index, 3))
    (kk : ∀ (H1 : Heap) (L : List Loc), va_at D cl (a, .inl (c0, n1, .inr (.inl (va_cpy f g sp.toNatClampNeg dp.toNatClampNeg n.toNatClampNeg)))) H1 → H1.size = H.size → (∀ q : Nat, q ≠ a → H1[q]? = H[q]?) → (∀ q ∈ L, q.base = a) → W p l e R s m args below meth c H1 (locs ++ L) cells slots Q (F0 m (pc + 3) ls rest)) : W p l e R s m args below meth c H locs cells slots Q (F0 m pc ls (.int n :: .int dp :: .ref a :: .int sp :: .ref a0 :: rest)) := by
  have nn : ∀ z : Int32, ¬ z < 0 → z.toInt = (z.toNatClampNeg : Int) := by
    intro z hz
    have hz0 : (0 : Int) ≤ z.toInt := by
      have := Int32.not_lt.mp hz
      simpa using Int32.le_iff_toInt_le.mp this
    show z.toInt = ((z.toInt.toNat : Nat) : Int)
    omega
  intro T hT X
  have hc0 : H[a0]? = some (vp_cell c0 (n0, .inr (.inl f))) := ha0
  have hc1 : H[a]? = some (vp_cell c0 (n1, .inr (.inl g))) := ha1
  obtain ⟨-, k0, hk0, cm0, hkk0⟩ := (hK.2 t0 _ ht0).1 n0 (fun j => .long (f j))
  obtain ⟨-, k1, hk1, cm1, hkk1⟩ := (hK.2 t0 _ ht0).1 n1 (fun j => .long (g j))
  obtain ⟨vm', X', step⟩ := X.arraycopy hexec hown hlink hnat hstat hini (src := a0) (dst := a) (cs := vp_cell c0 (n0, .inr (.inl f))) (cd := vp_cell c0 (n1, .inr (.inl g))) (srcPos := sp) (destPos := dp) (n := n) (by rw [hT]; exact hc0) (by rw [hT]; exact hc1)
    (fun _ h => by cases h) (fun _ h => by cases h) (fun h => by cases h) (fun h => by cases h) hk0 hk1 hkk0 hkk1 (by simp [refKind]) h1 h2 h3
    (by rw [nn sp h1, nn n h3]; show ¬ _ > ((arrV c0 n0 (fun j => .long (f j))).slots.size : Int); rw [arrV_size]; omega)
    (by rw [nn dp h2, nn n h3]; show ¬ _ > ((arrV c0 n1 (fun j => .long (g j))).slots.size : Int); rw [arrV_size]; omega)
    (fun vm₁ _ i hi => by
      have e : (vp_cell c0 (n0, .inr (.inl f))).slots.getD (sp.toNatClampNeg + i) .null = .long (f (sp.toNatClampNeg + i)) := by
        show (arrV c0 n0 (fun j => .long (f j))).slots.getD _ _ = _
        rw [Array.getD_eq_getD_getElem?, arrV_read _ _ (by omega)]
        rfl
      refine ⟨?_, ?_⟩
      · rw [e]
        rfl
      · rw [e]
        exact trivial)
    (g := F0 m pc ls (.int n :: .int dp :: .ref a :: .int sp :: .ref a0 :: rest)) rfl (by rw [hml]) (rest := rest) rfl (by rw [hb]; exact hdg) hframes (by show 2 * 0 + _ + _ ≤ _; omega)
  have e1 : copied (vp_cell c0 (n0, .inr (.inl f))) (vp_cell c0 (n1, .inr (.inl g))) sp dp n = vp_cell c0 (n1, .inr (.inl (va_cpy f g sp.toNatClampNeg dp.toNatClampNeg n.toNatClampNeg))) := va_copied (fun z => .long z) c0 c0 f g h4
  rw [e1] at X' step
  have hl : a < H.size := (Array.getElem?_eq_some_iff.mp hc1).1
  have hheap : ((T.setVm vm').setCell a (vp_cell c0 (n1, .inr (.inl (va_cpy f g sp.toNatClampNeg dp.toNatClampNeg n.toNatClampNeg))))).heap = H.setIfInBounds a (vp_cell c0 (n1, .inr (.inl (va_cpy f g sp.toNatClampNeg dp.toNatClampNeg n.toNatClampNeg)))) := by rw [← hT]; rfl
  obtain ⟨t, a1, b1⟩ := kk (H.setIfInBounds a (vp_cell c0 (n1, .inr (.inl (va_cpy f g sp.toNatClampNeg dp.toNatClampNeg n.toNatClampNeg))))) _ (show (H.setIfInBounds a _)[a]? = some _ by simp [Array.getElem?_setIfInBounds, hl]) (by simp) (fun q hq => by simp [Array.getElem?_setIfInBounds, Ne.symm hq]) (fun q hq => by
      obtain ⟨z, -, hz⟩ := List.mem_map.mp hq
      rw [← hz]) _ hheap X'
  exact ⟨t, step t a1, b1⟩
end COPY
abbrev cpOk (sp dp n : Int32) : Prop := ¬ sp < 0 ∧ ¬ dp < 0 ∧ ¬ n < 0 ∧ ix sp + ix n ≤ 40 ∧ ix dp + ix n ≤ 40
section MORE2
variable {Z : Zt} {E : Ec} {cc : ByteArray} {nL : Nat} {own : String} {ret : Option FieldType} {h : Nat} {β : Type} {fin : β → Option Value × Mi × Ml} {pc : Nat} {lv lv' : List (Nat × Value)} {st rest : List Value} {M M' : Mi} {N N' : Ml} {t t1 t2 : Option β}
theorem r_copy {g1 g2 : Nat} {sp dp n : Int32} (C : Ok 1 Z E cc nL RX4 ret h) (hh : 0 < h) (hg1 : 20 ≤ g1 ∧ g1 < 24) (hg2 : 20 ≤ g2 ∧ g2 < 24) (ho : cpOk sp dp n) (hN : sR N g2 (va_cpy (N g1) (N g2) (ix sp) (ix dp) (ix n)) = N') (hd : decode cc pc = .ok (.invokestatic 255, 3)) (kk : GT Z E nL fin (pc + 3) lv [] M N' t) : GT Z E nL fin pc lv [.int n, .int dp, .ref (zA Z g2 1), .int sp, .ref (zA Z g1 1)] M N t := by
  intro b hb H locs ls h1 h2 h3 h4
  have q1 : 1 ≤ E.2.2.2.1.frames := by rw [C.rm]; exact hh
  have q3 : nativeFrameWords "java/lang/System" "arraycopy" 5 + 11 ≤ 30 := by decide +kernel
  have q2 : (([] : List Value).map fun v => v.category).sum + (nativeFrameWords "java/lang/System" "arraycopy" 5 + 11) ≤ E.2.2.2.1.locals := by
    rw [C.rm]
    show 0 + (nativeFrameWords "java/lang/System" "arraycopy" 5 + 11) ≤ 30 * h
    omega
  refine x_copyl (rest := []) C.x C.b (C.ml.trans h4.1.symm) C.ow (C.ts _ wd_741) (C.ts _ wd_743) (C.ts _ wd_742) (C.ts _ wd_92) C.kn.1 1 (h1 g1 1 _ (lyS C.z hg1 _ _ 1)) (h1 g2 1 _ (lyS C.z hg2 _ _ 1)) rfl ho.1 ho.2.1 ho.2.2.1 ho.2.2.2.1 ho.2.2.2.2 q1 q2 hd (fun H1 L he hz oq hL => ?_)
  have hR := h1.put C.z.1 (lyS C.z hg2 _ _ 1) ((lyS C.z hg2 (M g2) (va_cpy (N g1) (N g2) (ix sp) (ix dp) (ix n)) 1)) he oq (fun p e hp q => by
    rw [lyS C.z hg2] at q ⊢
    rw [← q]
    match p, hp with
    | 0, _ => rfl
    | 1, hp => exact absurd rfl hp
    | n + 2, _ => rfl)
  rw [sR_self, hN] at hR
  exact kk b hb H1 _ ls hR (h2.set ⟨g2, 1, _, _, _, lyS C.z hg2 (M g2) (N g2) 1, rfl⟩ hz oq) (locs_app h3 (fun q hq => by rw [hL q hq]; exact ⟨g2, 1, _, _, _, lyS C.z hg2 (M g2) (N g2) 1, rfl⟩)) h4
end MORE2
