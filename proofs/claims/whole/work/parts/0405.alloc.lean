/-! the makings: a block of new cells -/
def Blk (D : va_G) (n0 : Nat) (cs : List va_E) (H : Heap) : Prop := H.size = n0 + cs.length ∧ ∀ (i : Nat) (e : va_E), cs[i]? = some e → va_at D vwCl (n0 + i, e) H
theorem Blk.push {D : va_G} {n0 : Nat} {cs : List va_E} {H H1 : Heap} {e : va_E} (h : Blk D n0 cs H) (hz : H1.size = H.size + 1) (o1 : ∀ q : Nat, q < H.size → H1[q]? = H[q]?) (he : va_at D vwCl (H.size, e) H1) : Blk D n0 (cs ++ [e]) H1 := by
  refine ⟨by rw [hz, h.1, List.length_append]; rfl, fun i x hx => ?_⟩
  by_cases hl : i < cs.length
  · rw [List.getElem?_append_left hl] at hx
    exact (h.2 i x hx).kept (o1 _ (by rw [h.1]; show n0 + i < _; omega))
  · rw [List.getElem?_append_right (by omega)] at hx
    have hz2 : i - cs.length < 1 := (List.getElem?_eq_some_iff.mp hx).1
    rw [show i - cs.length = 0 by omega] at hx
    cases hx
    rw [show n0 + i = H.size by rw [h.1]; omega]
    exact he
theorem Blk.set {D : va_G} {n0 : Nat} {cs : List va_E} {H H1 : Heap} {e : va_E} {i : Nat} (h : Blk D n0 cs H) (he : va_at D vwCl (n0 + i, e) H1) (hz : H1.size = H.size) (oq : ∀ q : Nat, q ≠ n0 + i → H1[q]? = H[q]?) : Blk D n0 (cs.set i e) H1 := by
  refine ⟨by rw [hz, h.1, List.length_set], fun j x hx => ?_⟩
  by_cases hj : j = i
  · subst hj
    have hl : j < cs.length := by
      have := (List.getElem?_eq_some_iff.mp hx).1
      rwa [List.length_set] at this
    rw [List.getElem?_set_self hl] at hx
    cases hx
    exact he
  · rw [List.getElem?_set_ne (Ne.symm hj)] at hx
    exact (h.2 j x hx).kept (oq _ (by show n0 + j ≠ n0 + i; omega))
theorem Blk.tail {D : va_G} {n0 : Nat} {cs ds : List va_E} {H : Heap} (h : Blk D n0 (cs ++ ds) H) : Blk D (n0 + cs.length) ds H := by
  refine ⟨by rw [h.1, List.length_append]; omega, fun i x hx => ?_⟩
  have := h.2 (cs.length + i) x (by rw [List.getElem?_append_right (by omega)]; rw [show cs.length + i - cs.length = i by omega]; exact hx)
  rwa [show n0 + (cs.length + i) = n0 + cs.length + i by omega] at this
theorem Blk.join {D : va_G} {n0 : Nat} {cs ds ds' : List va_E} {H H1 : Heap} (h : Blk D n0 (cs ++ ds) H) (h1 : Blk D (n0 + cs.length) ds' H1) (oq : ∀ q : Nat, q < n0 + cs.length → H1[q]? = H[q]?) : Blk D n0 (cs ++ ds') H1 := by
  refine ⟨by rw [h1.1, List.length_append]; omega, fun i x hx => ?_⟩
  by_cases hl : i < cs.length
  · rw [List.getElem?_append_left hl] at hx
    exact (h.2 i x (by rw [List.getElem?_append_left hl]; exact hx)).kept (oq _ (by show n0 + i < _; omega))
  · rw [List.getElem?_append_right (by omega)] at hx
    have := h1.2 _ x hx
    rwa [show n0 + cs.length + (i - cs.length) = n0 + i by omega] at this
section XA
variable {p : Program} {l : Launch} {e : Env} {R : Room} {s : State} {m : MethodId} {args : Array Value} {below : List Frame} {meth : Method} {c : Code} {H : Heap} {locs : List Loc} {cells slots : Nat} {Q : State → Prop}
variable {cc : ByteArray} {pc : Nat} {ls : Array Slot} {rest : List Value} {D : va_G} {cl : List vw_C} {a : Nat} {tys : List (ClassId × FieldType)}
theorem x_new (hexec : p.tables.exec = Jvm.exec) (hb : c.code = cc) {own C : String} {T : u_T} {N ci index : Nat} {Ts : List Cond} (hts : ∀ w ∈ Ts, w.before args s = true) (hin : ∀ w ∈ u_ws C T N, w ∈ Ts) (ty : Nat → FieldType) (hty : ∀ k, k < N → parseFieldDescriptor (T k).2.2.1 = some (ty k)) (hown : s.vm.findClass own = some m.cls) (hcl : (Cond.classLink own index C).before args s = true) (hinst : (Cond.instantiable C N).before args s = true) (hini : (Cond.initialized C).before args s = true)
    (hK : va_K D cl tys s) (hc : cl[ci]? = some (C, T, N)) {fs : List Value} (hfs : ∀ j, j < N → defaultValue (ty j) = vp_V fs j) (hcells : cells + 1 ≤ R.cells) (hslots : slots + N ≤ R.slots) (hdg : decode cc pc = .ok (.new index, 3))
    (kk : ∀ H1 : Heap, va_at D cl (H.size, .inr (ci, fs)) H1 → H1.size = H.size + 1 → (∀ q : Nat, q < H.size → H1[q]? = H[q]?) → W p l e R s m args below meth c H1 locs (cells + 1) (slots + N) Q (F0 m (pc + 3) ls (.ref H.size :: rest))) : W p l e R s m args below meth c H locs cells slots Q (F0 m pc ls rest) := by
  have hKn := hK.1 ci _ hc
  exact W.newcK hexec hb hown hcl hinst hini rfl hdg hcells hslots hKn.2.1 rfl fun H1 kC hkC e1 z1 o1 => kk H1 ⟨_, hc, (u_born ty hts hin hKn hkC e1 hty).to hfs⟩ z1 o1
theorem x_newa (hexec : p.tables.exec = Jvm.exec) (hb : c.code = cc) {atype : ArrayType} {ty : FieldType} (hty : newarray.typeOf atype = ty) (harr : (Cond.arrayClass ty).before args s = true) {cT : ClassId} (hra : s.vm.findClass ("[" ++ ty.toString) = some cT)
    {n : Int32} {N' : Nat} {a0 : vp_A} (ha : ∀ cA : ClassId, vp_cell cA a0 = arrV cA N' (fun _ => defaultValue ty)) (hn : ¬ n < 0) (hN : n.toNatClampNeg = N') (hbytes : N' * componentBytes ty ≤ 536870912) (hcells : cells + 1 ≤ R.cells) (hslots : slots + N' ≤ R.slots) (hdg : decode cc pc = .ok (.newarray atype, 2))
    (kk : ∀ H1 : Heap, va_at D cl (H.size, .inl (cT, a0)) H1 → H1.size = H.size + 1 → (∀ q : Nat, q < H.size → H1[q]? = H[q]?) → W p l e R s m args below meth c H1 locs (cells + 1) (slots + N') Q (F0 m (pc + 2) ls (.ref H.size :: rest))) : W p l e R s m args below meth c H locs cells slots Q (F0 m pc ls (.int n :: rest)) := by
  subst hty
  refine va_newaK hexec hb harr rfl hdg rfl hn hN hbytes hcells hslots rfl fun H1 cA e1 z1 o1 hAr hNm => kk H1 ?_ z1 o1
  cases hNm.symm.trans hra
  show H1[H.size]? = some (vp_cell _ _)
  rw [ha]
  exact e1
theorem x_anew (hexec : p.tables.exec = Jvm.exec) (hb : c.code = cc) {own C : String} {index : Nat} (hown : s.vm.findClass own = some m.cls) (hclink : (Cond.classLink own index C).before args s = true) (hover : va_AO C s) {cT : ClassId} (hra : s.vm.findClass ("[" ++ (FieldType.object C).toString) = some cT)
    {n : Int32} {N' : Nat} (hn : ¬ n < 0) (hN : n.toNatClampNeg = N') (hbytes : N' * 4 ≤ 536870912) (hcells : cells + 1 ≤ R.cells) (hslots : slots + N' ≤ R.slots) (hdg : decode cc pc = .ok (.anewarray index, 3))
    (kk : ∀ H1 : Heap, va_at D cl (H.size, .inl (cT, N', .inr (.inr (.inr (.inr (fun _ => none)))))) H1 → H1.size = H.size + 1 → (∀ q : Nat, q < H.size → H1[q]? = H[q]?) → W p l e R s m args below meth c H1 locs (cells + 1) (slots + N') Q (F0 m (pc + 3) ls (.ref H.size :: rest))) : W p l e R s m args below meth c H locs cells slots Q (F0 m pc ls (.int n :: rest)) := by
  subst hN
  refine W.anew hexec hb hown hclink (va_AO.use hover) rfl hdg rfl hn hbytes hcells hslots fun cA kA comp f1 f2 f3 f4 => ?_
  cases f1.symm.trans hra
  refine kk _ ?_ (Array.size_push _) (fun q hq => by rw [Array.getElem?_push, if_neg (Nat.ne_of_lt hq)])
  show (H.push _)[H.size]? = some (vp_cell _ _)
  rw [Array.getElem?_push_size, arrV_new]
  rfl
theorem x_putF (hexec : p.tables.exec = Jvm.exec) (hb : c.code = cc) {own C : String} {T : u_T} {N ci index : Nat} {Ts : List Cond} (hts : ∀ w ∈ Ts, w.before args s = true) (hin : ∀ w ∈ u_ws C T N, w ∈ Ts) (ty0 : Nat → FieldType) (hty : ∀ k, k < N → parseFieldDescriptor (T k).2.2.1 = some (ty0 k)) (hnm : ∀ a, a < N → ∀ b, b < N → a ≠ b → (T a).2.1 ≠ (T b).2.1) (hown : s.vm.findClass own = some m.cls) (hK : va_K D cl tys s) {fs : List Value} (he : va_at D cl (a, .inr (ci, fs)) H) (hc : cl[ci]? = some (C, T, N)) (k : Nat) (hk : k < N) (hlink : (Cond.fieldLink own index (T k).1 (T k).2.1 (T k).2.2.1).before args s = true) (hfin : (T k).2.2.2 = true) (hin2 : meth.name = "<init>") (hdecl : (T k).1 = own) {ty : FieldType} {v : Value} (hd : parseFieldDescriptor (T k).2.2.1 = some ty) (hn : narrow ty v = v) (hfit : fits ty v = true) (hl : k < fs.length)
    (hdg : decode cc pc = .ok (.putfield index, 3)) (kk : ∀ (H1 : Heap) (j : Nat), va_at D cl (a, .inr (ci, fs.set k v)) H1 → H1.size = H.size → (∀ q : Nat, q ≠ a → H1[q]? = H[q]?) → W p l e R s m args below meth c H1 (locs ++ [⟨a, j⟩]) cells slots Q (F0 m (pc + 3) ls rest)) : W p l e R s m args below meth c H locs cells slots Q (F0 m pc ls (v :: .ref a :: rest)) := by
  have hap := va_apart (own := own) hts hin ty0 hty hnm hK hc
  obtain ⟨r, h1, cell, q1, q2, q3, q4⟩ := he
  have hr : r = (C, T, N) := Option.some.inj (h1.symm.trans hc)
  subst hr
  obtain ⟨hS, hfc, kC, hkC, hkind⟩ := hK.1 ci _ hc
  obtain ⟨cf, kf, fi, f, hi, hsl⟩ := hS k hk
  have hlay := hts _ (hin _ (u_in_lay hk))
  unfold u_lay at hlay
  rw [if_pos hfin] at hlay
  have hst := (u_facts hfc hkC (u_lays hts hin hk) hi).1
  have hcf : m.cls = cf := by
    obtain ⟨_, _, c', _, _, _, -, -, hf', -, -, -, hown2, -⟩ := Cond.laysFinal_spec hlay
    have e1 : c' = cf := by have := hi.symm.trans hf'; simp at this; exact this.1.symm
    rw [hdecl] at hown2
    rw [← e1]; exact Option.some.inj (hown.symm.trans hown2)
  have h6 := u_fits hfc hkC hkind (Or.inr hlay) hi hd hn hfit
  refine W.putFinK hexec hb hown hlink hi hst hcf hin2 (by rw [q2]; exact h6) q1 q3 (by rw [hsl]; exact k2_hasslot (q4 k hk)) rfl rfl hdg fun H' e1 e2 e3 => ?_
  rw [hsl] at e1 ⊢
  exact kk H' _ ⟨_, hc, t_OB.to (V := updV (vp_V fs) k v) ⟨_, e1, q2, q3, t_set q4 hap hk v⟩ (fun j _ => vp_updV_set hl v j)⟩ e2 e3
theorem x_aast (hexec : p.tables.exec = Jvm.exec) (hb : c.code = cc) (hK : va_K D cl tys s) (t0 ci : Nat) {cA : ClassId} {r : vw_C} {n v : Nat} {vs : List Value} {f : Nat → Option Nat} (ha : va_at D cl (a, .inl (cA, n, .inr (.inr (.inr (.inr f))))) H) (ht : tys[t0]? = some (cA, .object r.1)) (hv : va_at D cl (v, .inr (ci, vs)) H) (hc : cl[ci]? = some r) {i : Int32} (hin : vp_in i n) (hdg : decode cc pc = .ok (.aastore, 1))
    (kk : ∀ H1 : Heap, va_at D cl (a, .inl (cA, n, .inr (.inr (.inr (.inr (va_up f i.toNatClampNeg (some v))))))) H1 → H1.size = H.size → (∀ q : Nat, q ≠ a → H1[q]? = H[q]?) → W p l e R s m args below meth c H1 (locs ++ [⟨a, i.toNatClampNeg⟩]) cells slots Q (F0 m (pc + 1) ls rest)) : W p l e R s m args below meth c H locs cells slots Q (F0 m pc ls (.ref v :: .int i :: .ref a :: rest)) := by
  have hlt : i.toNatClampNeg < n := Nat.not_le.mp fun q => hin (Or.inr q)
  have h0 : ¬ i < 0 := fun q => hin (Or.inl q)
  obtain ⟨r', hr', cellV, g1, g2, g3, -⟩ := hv
  have hcls := (hK.1 ci r hc).2
  obtain ⟨kA, comp, k1, k2, k3, -⟩ := (hK.2 t0 _ ht).2
  have hcomp : comp = D.1 ci := Option.some.inj (k3.symm.trans hcls.1)
  subst hcomp
  obtain ⟨kC, hkC, -⟩ := hcls.2
  refine W.aast hexec hb ha (fun q h => by cases h) (fun h => by cases h) k1 k2 rfl hkC ⟨h0, by show _ < (arrV _ _ _).slots.size; rw [arrV_size]; exact hlt⟩ g1 (fun q h => by rw [g3] at h; cases h) (by rw [g2]; exact hkC) (by rw [g2]; exact va_assign hcls) rfl rfl hdg fun H1 e z oq => ?_
  refine kk H1 ?_ z oq
  show H1[a]? = some (vp_cell _ _)
  rw [e]
  rw [vp_cell_q, vp_cell_q, arrV_store]
  congr 2
  funext q
  by_cases hq : q = i.toNatClampNeg
  · subst hq
    simp [updV, va_up, va_rf]
  · simp [updV, va_up, hq]
end XA
def KA (D : va_G) (cy : Nat → ClassId) (U : State) : Prop := KN D cy U ∧ va_AO "TortoiseShelves$Sheet" U
theorem KA.warm {D : va_G} {cy : Nat → ClassId} {s U : State} (hW : s.WarmedH U.vm) (h : KA D cy s) : KA D cy U := ⟨h.1.warm hW, h.2.moved hW.alike⟩
theorem KA.same {D : va_G} {cy : Nat → ClassId} {u U : State} (hv : u.vm = U.vm) (h : KA D cy u) : KA D cy U := ⟨h.1.same hv, h.2.moved (by rw [hv]; exact Vm.Alike.refl _)⟩
abbrev rmA (h c k : Nat) : Room := { frames := h, cells := c, slots := k, locals := 30 * h }
def pcA (D : va_G) (cy : Nat → ClassId) (n0 : Nat) (av : List Value) (cs : List va_E) : Array Value → State → Prop := fun v U => v = av.toArray ∧ Blk D n0 cs U.heap ∧ KA D cy U
def qA (D : va_G) (n0 : Nat) (cs : List va_E) : Array Value → State → Outcome → State → Prop := fun _ st o t => o = .returned none ∧ Blk D n0 cs t.heap ∧ ∀ q : Nat, q < n0 → t.heap[q]? = st.heap[q]?
def CtA (D : va_G) (cy : Nat → ClassId) (l : Launch) (y : MethodName) (cc : ByteArray) (maxL h c k n0 : Nat) (av : List Value) (cs cs' : List va_E) : Prop :=
  Met l y (Cond.code y cc maxL none :: base) (rmA h c k) (pcA D cy n0 av cs) (qA D n0 cs') c k (fun q => n0 ≤ q)
def OkA (D : va_G) (cy : Nat → ClassId) (E : Ec) (cc : ByteArray) (nL : Nat) (own : String) (h c k : Nat) : Prop :=
  E.1.tables.exec = Jvm.exec ∧ E.2.2.2.2.2.2.2.2.2.code = cc ∧ E.2.2.2.2.2.2.2.2.2.maxLocals = nL ∧ (eS E).vm.findClass own = some (eM E).cls ∧ (∀ w ∈ base, w.before E.2.2.2.2.2.2.1 (eS E) = true) ∧ (h ≤ E.2.2.2.1.frames ∧ 30 * h ≤ E.2.2.2.1.locals ∧ c ≤ E.2.2.2.1.cells ∧ k ≤ E.2.2.2.1.slots) ∧ KA D cy (eS E)
def GA (D : va_G) (E : Ec) (nL n0 : Nat) (Q : State → Prop) (pc : Nat) (lv : List (Nat × Value)) (st : List Value) (cs : List va_E) (c k : Nat) : Prop :=
  ∀ (H : Heap) (locs : List Loc) (ls : Array Slot), Blk D n0 cs H → (∀ q : Nat, q < n0 → H[q]? = (eS E).heap[q]?) → (∀ q ∈ locs, n0 ≤ q.base) → lv_has ls nL lv →
    W E.1 E.2.1 E.2.2.1 E.2.2.2.1 E.2.2.2.2.1 E.2.2.2.2.2.1 E.2.2.2.2.2.2.1 E.2.2.2.2.2.2.2.1 E.2.2.2.2.2.2.2.2.1 E.2.2.2.2.2.2.2.2.2 H locs c k Q (F0 (eM E) pc ls st)
section OKA
variable {D : va_G} {cy : Nat → ClassId} {E : Ec} {cc : ByteArray} {nL : Nat} {own : String} {h c k : Nat}
theorem OkA.x (C : OkA D cy E cc nL own h c k) : E.1.tables.exec = Jvm.exec := C.1
theorem OkA.b (C : OkA D cy E cc nL own h c k) : E.2.2.2.2.2.2.2.2.2.code = cc := C.2.1
theorem OkA.ml (C : OkA D cy E cc nL own h c k) : E.2.2.2.2.2.2.2.2.2.maxLocals = nL := C.2.2.1
theorem OkA.ow (C : OkA D cy E cc nL own h c k) : (eS E).vm.findClass own = some (eM E).cls := C.2.2.2.1
theorem OkA.ts (C : OkA D cy E cc nL own h c k) : ∀ w ∈ base, w.before E.2.2.2.2.2.2.1 (eS E) = true := C.2.2.2.2.1
theorem OkA.rm (C : OkA D cy E cc nL own h c k) : h ≤ E.2.2.2.1.frames ∧ 30 * h ≤ E.2.2.2.1.locals ∧ c ≤ E.2.2.2.1.cells ∧ k ≤ E.2.2.2.1.slots := C.2.2.2.2.2.1
theorem OkA.ka (C : OkA D cy E cc nL own h c k) : KA D cy (eS E) := C.2.2.2.2.2.2
end OKA
theorem metA {D : va_G} {cy : Nat → ClassId} {l : Launch} {y : MethodName} {cc : ByteArray} {maxL h c k n0 : Nat} {av : List Value} {cs cs' : List va_E} (hy : plainName y.cls = true) (hi : y.name = "<init>") (hlen : (lg_sl av).length ≤ maxL)
    (body : ∀ E : Ec, OkA D cy E cc maxL y.cls h c k → E.2.2.2.2.2.2.2.2.1.name = "<init>" → E.2.2.2.2.2.2.2.2.1.sig.returnType = none → E.2.2.2.2.2.2.2.2.1.locks = false → GA D E maxL n0 (MQ E.2.2.2.2.2.2.2.1 (qA D n0 cs') E.2.2.2.2.2.2.1 (eS E) c k (fun q => n0 ≤ q)) 0 (lv_args 0 av) [] cs 0 0) : CtA D cy l y cc maxL h c k n0 av cs cs' := by
  refine Met.ofW (cc := cc) (maxL := maxL) (ret := none) hy rfl ?_
  intro p e s m args below meth cd s₁ B hml hv
  obtain ⟨rfl, hR, hK⟩ := hv
  rw [lg_entry_eq]
  have hts := atoms_spec (ws := Cond.code y cc maxL none :: base) B.pre
  exact body (p, l, e, rmA h c k, s, m, av.toArray, below, meth, cd) ⟨B.exec, B.bytes, hml, findClass_of_methodNamed B.named, fun w hw => hts w (List.mem_cons_of_mem _ hw), ⟨Nat.le_refl _, Nat.le_refl _, Nat.le_refl _, Nat.le_refl _⟩, hK⟩ ((name_of_methodNamed B.named B.method).1.trans hi) B.returns B.notSynchronized s.heap [] _ hR (fun _ _ => rfl) (fun _ h => by cases h) (lv_entry av hlen)
section GAROWS
variable {D : va_G} {cy : Nat → ClassId} {E : Ec} {cc : ByteArray} {nL n0 : Nat} {own : String} {h mc ms : Nat} {Q : State → Prop} {pc : Nat} {lv lv' : List (Nat × Value)} {st rest : List Value} {cs cs' : List va_E} {c k c' k' : Nat}
theorem ga_iconst {n : Int} {v : Int32} (C : OkA D cy E cc nL own h mc ms) (hd : decode cc pc = .ok (.iconst n, 1)) (hv : Int32.ofInt n = v) (kk : GA D E nL n0 Q (pc + 1) lv (.int v :: rest) cs c k) : GA D E nL n0 Q pc lv rest cs c k :=
  fun H locs ls h1 h2 h3 h4 => lv_iconst C.x C.b hd hv (kk H locs ls h1 h2 h3 h4)
theorem ga_bipush {n : Int} {v : Int32} (C : OkA D cy E cc nL own h mc ms) (hd : decode cc pc = .ok (.bipush n, 2)) (hv : (Int8.ofInt n).toInt32 = v) (kk : GA D E nL n0 Q (pc + 2) lv (.int v :: rest) cs c k) : GA D E nL n0 Q pc lv rest cs c k :=
  fun H locs ls h1 h2 h3 h4 => lv_bipush C.x C.b hd hv (kk H locs ls h1 h2 h3 h4)
theorem ga_sipush {n : Int} {v : Int32} (C : OkA D cy E cc nL own h mc ms) (hd : decode cc pc = .ok (.sipush n, 3)) (hv : (Int16.ofInt n).toInt32 = v) (kk : GA D E nL n0 Q (pc + 3) lv (.int v :: rest) cs c k) : GA D E nL n0 Q pc lv rest cs c k :=
  fun H locs ls h1 h2 h3 h4 => lv_sipush C.x C.b hd hv (kk H locs ls h1 h2 h3 h4)
theorem ga_aload_n {q : Fin 4} {x : Nat} (C : OkA D cy E cc nL own h mc ms) (hd : decode cc pc = .ok (.aload_n q, 1)) (i j : Nat) (hi : (q : Nat) = i) (hl : lv[j]? = some (i, .ref x)) (kk : GA D E nL n0 Q (pc + 1) lv (.ref x :: rest) cs c k) : GA D E nL n0 Q pc lv rest cs c k :=
  fun H locs ls h1 h2 h3 h4 => lv_aload_n C.x C.b hd hi (lv_at h4 j hl) (kk H locs ls h1 h2 h3 h4)
theorem ga_iload_n {q : Fin 4} {x : Int32} (C : OkA D cy E cc nL own h mc ms) (hd : decode cc pc = .ok (.iload_n q, 1)) (i j : Nat) (hi : (q : Nat) = i) (hl : lv[j]? = some (i, .int x)) (kk : GA D E nL n0 Q (pc + 1) lv (.int x :: rest) cs c k) : GA D E nL n0 Q pc lv rest cs c k :=
  fun H locs ls h1 h2 h3 h4 => lv_iload_n C.x C.b hd hi (lv_at h4 j hl) (kk H locs ls h1 h2 h3 h4)
theorem ga_istore_n {q : Fin 4} {x : Int32} (C : OkA D cy E cc nL own h mc ms) (hd : decode cc pc = .ok (.istore_n q, 1)) (i : Nat) (hi : (q : Nat) = i) (hn : i < nL) (hl : (i, Value.int x) :: lv.filter (fun q => !(q.1 == i) && !(q.1 + 1 == i && q.2.category == 2)) = lv') (kk : GA D E nL n0 Q (pc + 1) lv' rest cs c k) : GA D E nL n0 Q pc lv (.int x :: rest) cs c k :=
  fun H locs ls h1 h2 h3 h4 => lv_istore_n C.x C.b hd hi h4 hn hl (fun ls2 h5 => kk H locs ls2 h1 h2 h3 h5)
theorem ga_astore_n {q : Fin 4} {x : Nat} (C : OkA D cy E cc nL own h mc ms) (hd : decode cc pc = .ok (.astore_n q, 1)) (i : Nat) (hi : (q : Nat) = i) (hn : i < nL) (hl : (i, Value.ref x) :: lv.filter (fun q => !(q.1 == i) && !(q.1 + 1 == i && q.2.category == 2)) = lv') (kk : GA D E nL n0 Q (pc + 1) lv' rest cs c k) : GA D E nL n0 Q pc lv (.ref x :: rest) cs c k :=
  fun H locs ls h1 h2 h3 h4 => lv_astore_n C.x C.b hd hi h4 hn hl (fun ls2 h5 => kk H locs ls2 h1 h2 h3 h5)
theorem ga_iinc {i : Nat} {n : Int} {x v : Int32} (C : OkA D cy E cc nL own h mc ms) (hd : decode cc pc = .ok (.iinc i n, 3)) (j : Nat) (hj : lv[j]? = some (i, .int x)) (hv : x + Int32.ofInt n = v) (hn : i < nL) (hl : (i, Value.int v) :: lv.filter (fun q => !(q.1 == i) && !(q.1 + 1 == i && q.2.category == 2)) = lv') (kk : GA D E nL n0 Q (pc + 3) lv' rest cs c k) : GA D E nL n0 Q pc lv rest cs c k :=
  fun H locs ls h1 h2 h3 h4 => lv_iinc C.x C.b hd h4 hj hv hn hl (fun ls2 h5 => kk H locs ls2 h1 h2 h3 h5)
theorem ga_goto {off : Int} {tgt : Nat} (C : OkA D cy E cc nL own h mc ms) (hd : decode cc pc = .ok (.goto off, 3)) (ht : (pc : Int) + off = (tgt : Int)) (kk : GA D E nL n0 Q tgt lv st cs c k) : GA D E nL n0 Q pc lv st cs c k :=
  fun H locs ls h1 h2 h3 h4 => lv_goto C.x C.b hd ht (kk H locs ls h1 h2 h3 h4)
theorem ga_icT {x y : Int32} {off : Int} {tgt : Nat} (C : OkA D cy E cc nL own h mc ms) (hd : decode cc pc = .ok (.if_icmp .ge off, 3)) (ht : (pc : Int) + off = (tgt : Int)) (hc : y ≤ x) (kk : GA D E nL n0 Q tgt lv rest cs c k) : GA D E nL n0 Q pc lv (.int y :: .int x :: rest) cs c k :=
  fun H locs ls h1 h2 h3 h4 => lv_icmp_ge C.x C.b hd ht (fun _ => kk H locs ls h1 h2 h3 h4) (fun z => absurd hc z)
theorem ga_icF {x y : Int32} {off : Int} (C : OkA D cy E cc nL own h mc ms) (hd : decode cc pc = .ok (.if_icmp .ge off, 3)) {tgt : Nat} (ht : (pc : Int) + off = (tgt : Int)) (hc : ¬ y ≤ x) (kk : GA D E nL n0 Q (pc + 3) lv rest cs c k) : GA D E nL n0 Q pc lv (.int y :: .int x :: rest) cs c k :=
  fun H locs ls h1 h2 h3 h4 => lv_icmp_ge C.x C.b hd ht (fun z => absurd z hc) (fun _ => kk H locs ls h1 h2 h3 h4)
theorem ga_dup {v : Value} (C : OkA D cy E cc nL own h mc ms) (hd : decode cc pc = .ok (.dup, 1)) (hc : v.category = 1) (kk : GA D E nL n0 Q (pc + 1) lv (v :: v :: rest) cs c k) : GA D E nL n0 Q pc lv (v :: rest) cs c k :=
  fun H locs ls h1 h2 h3 h4 => lv_dup C.x C.b hd hc (kk H locs ls h1 h2 h3 h4)
theorem ga_obj {idx a : Nat} (C : OkA D cy E cc nL own h mc ms) (hh : 0 < h) (hw1 : Cond.methodLink own idx objectInit ∈ base) (hw2 : Cond.instanceMethod objectInit ∈ base) (hw3 : Cond.code objectInit ⟨#[0xb1]⟩ 1 none ∈ base) (hW : (rest.map fun v => v.category).sum ≤ 8) (hd : decode cc pc = .ok (.invokespecial idx, 3)) (kk : GA D E nL n0 Q (pc + 3) lv rest cs c k) : GA D E nL n0 Q pc lv (.ref a :: rest) cs c k :=
  fun H locs ls h1 h2 h3 h4 => W.objInit C.x C.b C.ow (C.ts _ hw1) (C.ts _ hw2) (C.ts _ hw3) rfl (by rw [C.ml]; exact h4.1) rfl hd (Nat.le_trans hh C.rm.1) (by have := C.rm.2.1; show 2 * 0 + _ + 12 ≤ _; omega) (kk H locs ls h1 h2 h3 h4)
theorem ga_new {Cn : String} {T : u_T} {n ci index : Nat} {fs : List Value} (C : OkA D cy E cc nL own h mc ms) (hin : ∀ w ∈ u_ws Cn T n, w ∈ base) (ty : Nat → FieldType) (hty : ∀ k, k < n → parseFieldDescriptor (T k).2.2.1 = some (ty k)) (hw1 : Cond.classLink own index Cn ∈ base) (hw2 : Cond.instantiable Cn n ∈ base) (hw3 : Cond.initialized Cn ∈ base) (hc : vwCl[ci]? = some (Cn, T, n)) (hfs : ∀ j, j < n → defaultValue (ty j) = vp_V fs j) (hb1 : c + 1 ≤ mc) (hb2 : k + n ≤ ms) (hd : decode cc pc = .ok (.new index, 3)) {a : Nat} (ha : n0 + cs.length = a) (hcs : cs ++ [.inr (ci, fs)] = cs')
    (kk : GA D E nL n0 Q (pc + 3) lv (.ref a :: rest) cs' (c + 1) (k + n)) : GA D E nL n0 Q pc lv rest cs c k := by
  intro H locs ls h1 h2 h3 h4
  subst ha; subst hcs
  refine x_new C.x C.b C.ts hin ty hty C.ow (C.ts _ hw1) (C.ts _ hw2) (C.ts _ hw3) C.ka.1.1 hc hfs (Nat.le_trans hb1 C.rm.2.2.1) (Nat.le_trans hb2 C.rm.2.2.2) hd (fun H1 he hz o1 => ?_)
  have e1 := h1.1
  have hB := h1.push hz o1 he
  rw [e1]
  exact kk H1 locs ls hB (fun q hq => (o1 q (by omega)).trans (h2 q hq)) h3 h4
theorem ga_newa {atype : ArrayType} {ty : FieldType} {n : Int32} {N' : Nat} {a0 : vp_A} {cT : ClassId} (C : OkA D cy E cc nL own h mc ms) (hty : newarray.typeOf atype = ty) (hw : Cond.arrayClass ty ∈ base) (hra : (eS E).vm.findClass ("[" ++ ty.toString) = some cT) (ha0 : ∀ cA : ClassId, vp_cell cA a0 = arrV cA N' (fun _ => defaultValue ty)) (hn : ¬ n < 0) (hN : n.toNatClampNeg = N') (hby : N' * componentBytes ty ≤ 536870912) (hb1 : c + 1 ≤ mc) (hb2 : k + N' ≤ ms) (hd : decode cc pc = .ok (.newarray atype, 2)) {a : Nat} (ha : n0 + cs.length = a) (hcs : cs ++ [.inl (cT, a0)] = cs')
    (kk : GA D E nL n0 Q (pc + 2) lv (.ref a :: rest) cs' (c + 1) (k + N')) : GA D E nL n0 Q pc lv (.int n :: rest) cs c k := by
  intro H locs ls h1 h2 h3 h4
  subst ha; subst hcs
  refine x_newa (D := D) (cl := vwCl) (a0 := a0) C.x C.b hty (C.ts _ hw) hra ha0 hn hN hby (Nat.le_trans hb1 C.rm.2.2.1) (Nat.le_trans hb2 C.rm.2.2.2) hd (fun H1 he hz o1 => ?_)
  have e1 := h1.1
  have hB := h1.push hz o1 he
  rw [e1]
  exact kk H1 locs ls hB (fun q hq => (o1 q (by omega)).trans (h2 q hq)) h3 h4
theorem ga_ti (C : OkA D cy E cc nL own h mc ms) : (eS E).vm.findClass ("[" ++ FieldType.int.toString) = some (cy 0) := (C.ka.1.1.2 0 _ rfl).2
theorem ga_tl (C : OkA D cy E cc nL own h mc ms) : (eS E).vm.findClass ("[" ++ FieldType.long.toString) = some (cy 1) := (C.ka.1.1.2 1 _ rfl).2
theorem ga_tz (C : OkA D cy E cc nL own h mc ms) : (eS E).vm.findClass ("[" ++ FieldType.boolean.toString) = some (cy 2) := (C.ka.1.1.2 2 _ rfl).2
theorem ga_tq (C : OkA D cy E cc nL own h mc ms) : (eS E).vm.findClass ("[" ++ (FieldType.object "TortoiseShelves$Sheet").toString) = some (cy 3) := by
  obtain ⟨_, _, _, _, _, q⟩ := (C.ka.1.1.2 3 _ rfl).2
  exact q
theorem ga_anew {n : Int32} {N' index : Nat} (C : OkA D cy E cc nL own h mc ms) (hw : Cond.classLink own index "TortoiseShelves$Sheet" ∈ base) (hn : ¬ n < 0) (hN : n.toNatClampNeg = N') (hby : N' * 4 ≤ 536870912) (hb1 : c + 1 ≤ mc) (hb2 : k + N' ≤ ms) (hd : decode cc pc = .ok (.anewarray index, 3)) {a : Nat} (ha : n0 + cs.length = a) (hcs : cs ++ [.inl (cy 3, N', .inr (.inr (.inr (.inr (fun _ => none)))))] = cs')
    (kk : GA D E nL n0 Q (pc + 3) lv (.ref a :: rest) cs' (c + 1) (k + N')) : GA D E nL n0 Q pc lv (.int n :: rest) cs c k := by
  intro H locs ls h1 h2 h3 h4
  subst ha; subst hcs
  refine x_anew (D := D) (cl := vwCl) C.x C.b C.ow (C.ts _ hw) C.ka.2 (ga_tq C) hn hN hby (Nat.le_trans hb1 C.rm.2.2.1) (Nat.le_trans hb2 C.rm.2.2.2) hd (fun H1 he hz o1 => ?_)
  have e1 := h1.1
  have hB := h1.push hz o1 he
  rw [e1]
  exact kk H1 locs ls hB (fun q hq => (o1 q (by omega)).trans (h2 q hq)) h3 h4
theorem ga_locs {locs : List Loc} {a j : Nat} (h3 : ∀ q ∈ locs, n0 ≤ q.base) (ha : n0 ≤ a) : ∀ q ∈ locs ++ [(⟨a, j⟩ : Loc)], n0 ≤ q.base := fun q hq => by
  rcases List.mem_append.mp hq with h1 | h1
  · exact h3 q h1
  · rw [List.mem_singleton.mp h1]
    exact ha
theorem ga_putF {Cn : String} {T : u_T} {n ci index a : Nat} {fs : List Value} {v : Value} {ty : FieldType} (C : OkA D cy E cc nL own h mc ms) (hnm2 : E.2.2.2.2.2.2.2.2.1.name = "<init>") (hin : ∀ w ∈ u_ws Cn T n, w ∈ base) (ty0 : Nat → FieldType) (hty : ∀ k, k < n → parseFieldDescriptor (T k).2.2.1 = some (ty0 k)) (hnm : ∀ a, a < n → ∀ b, b < n → a ≠ b → (T a).2.1 ≠ (T b).2.1) (hc : vwCl[ci]? = some (Cn, T, n)) (kf : Nat) (hk : kf < n) (hw : Cond.fieldLink own index (T kf).1 (T kf).2.1 (T kf).2.2.1 ∈ base) (hfin : (T kf).2.2.2 = true) (hdecl : (T kf).1 = own) (hdd : parseFieldDescriptor (T kf).2.2.1 = some ty) (hn : narrow ty v = v) (hfit : fits ty v = true) (i : Nat) (hi : cs[i]? = some (.inr (ci, fs))) (ha : n0 + i = a) (hl : kf < fs.length) (hcs : cs.set i (.inr (ci, fs.set kf v)) = cs') (hd : decode cc pc = .ok (.putfield index, 3))
    (kk : GA D E nL n0 Q (pc + 3) lv rest cs' c k) : GA D E nL n0 Q pc lv (v :: .ref a :: rest) cs c k := by
  intro H locs ls h1 h2 h3 h4
  subst ha; subst hcs
  refine x_putF C.x C.b C.ts hin ty0 hty hnm C.ow C.ka.1.1 (h1.2 i _ hi) hc kf hk (C.ts _ hw) hfin hnm2 hdecl hdd hn hfit hl hd (fun H1 j he hz oq => ?_)
  exact kk H1 _ ls (h1.set he hz oq) (fun q hq => (oq q (by omega)).trans (h2 q hq)) (ga_locs h3 (Nat.le_add_right _ _)) h4
theorem ga_put {Cn : String} {T : u_T} {n ci index a : Nat} {fs : List Value} {v : Value} {ty : FieldType} (C : OkA D cy E cc nL own h mc ms) (hin : ∀ w ∈ u_ws Cn T n, w ∈ base) (ty0 : Nat → FieldType) (hty : ∀ k, k < n → parseFieldDescriptor (T k).2.2.1 = some (ty0 k)) (hnm : ∀ a, a < n → ∀ b, b < n → a ≠ b → (T a).2.1 ≠ (T b).2.1) (hc : vwCl[ci]? = some (Cn, T, n)) (kf : Nat) (hk : kf < n) (hw : Cond.fieldLink own index (T kf).1 (T kf).2.1 (T kf).2.2.1 ∈ base) (hfin : (T kf).2.2.2 = false) (hdd : parseFieldDescriptor (T kf).2.2.1 = some ty) (hn : narrow ty v = v) (hfit : fits ty v = true) (i : Nat) (hi : cs[i]? = some (.inr (ci, fs))) (ha : n0 + i = a) (hl : kf < fs.length) (hcs : cs.set i (.inr (ci, fs.set kf v)) = cs') (hd : decode cc pc = .ok (.putfield index, 3))
    (kk : GA D E nL n0 Q (pc + 3) lv rest cs' c k) : GA D E nL n0 Q pc lv (v :: .ref a :: rest) cs c k := by
  intro H locs ls h1 h2 h3 h4
  subst ha; subst hcs
  refine x_put C.x C.b C.ts hin ty0 hty hnm C.ow C.ka.1.1 (h1.2 i _ hi) hc kf hk (C.ts _ hw) hfin hdd hn hfit hl hd (fun H1 j he hz oq => ?_)
  exact kk H1 _ ls (h1.set he hz oq) (fun q hq => (oq q (by omega)).trans (h2 q hq)) (ga_locs h3 (Nat.le_add_right _ _)) h4
theorem ga_get {Cn : String} {T : u_T} {n ci index a : Nat} {fs : List Value} {v : Value} (C : OkA D cy E cc nL own h mc ms) (hin : ∀ w ∈ u_ws Cn T n, w ∈ base) (hc : vwCl[ci]? = some (Cn, T, n)) (kf : Nat) (hk : kf < n) (hw : Cond.fieldLink own index (T kf).1 (T kf).2.1 (T kf).2.2.1 ∈ base) (i : Nat) (hi : cs[i]? = some (.inr (ci, fs))) (ha : n0 + i = a) (hv : fs[kf]? = some v) (hd : decode cc pc = .ok (.getfield index, 3))
    (kk : GA D E nL n0 Q (pc + 3) lv (v :: rest) cs c k) : GA D E nL n0 Q pc lv (.ref a :: rest) cs c k := by
  intro H locs ls h1 h2 h3 h4
  subst ha
  exact va_get C.x C.b C.ts hin C.ow C.ka.1.1 (sing (h1.2 i _ hi)) 0 rfl hc kf hk (C.ts _ hw) (fun _ q => q) hv hd (kk H locs ls h1 h2 h3 h4)
theorem ga_iast {n a : Nat} {f : Nat → Int32} {x j : Int32} (C : OkA D cy E cc nL own h mc ms) (i : Nat) (hi : cs[i]? = some (.inl (cy 0, n, .inl f))) (ha : n0 + i = a) (hin : inb j n) (hcs : cs.set i (.inl (cy 0, n, .inl (upd f (ix j) x))) = cs') (hd : decode cc pc = .ok (.iastore, 1)) (kk : GA D E nL n0 Q (pc + 1) lv rest cs' c k) : GA D E nL n0 Q pc lv (.int x :: .int j :: .ref a :: rest) cs c k := by
  intro H locs ls h1 h2 h3 h4
  subst ha; subst hcs
  refine x_iast C.x C.b C.ka.1.1 0 (h1.2 i _ hi) rfl (inb_in hin) hd (fun H1 he hz oq => ?_)
  exact kk H1 _ ls (h1.set he hz oq) (fun q hq => (oq q (by omega)).trans (h2 q hq)) (ga_locs h3 (Nat.le_add_right _ _)) h4
theorem ga_aast {n a v : Nat} {f : Nat → Option Nat} {vs : List Value} {j : Int32} (C : OkA D cy E cc nL own h mc ms) (i iv : Nat) (hi : cs[i]? = some (.inl (cy 3, n, .inr (.inr (.inr (.inr f)))))) (ha : n0 + i = a) (hv : cs[iv]? = some (.inr (2, vs))) (hva : n0 + iv = v) (hin : inb j n) (hcs : cs.set i (.inl (cy 3, n, .inr (.inr (.inr (.inr (va_up f (ix j) (some v))))))) = cs') (hd : decode cc pc = .ok (.aastore, 1)) (kk : GA D E nL n0 Q (pc + 1) lv rest cs' c k) : GA D E nL n0 Q pc lv (.ref v :: .int j :: .ref a :: rest) cs c k := by
  intro H locs ls h1 h2 h3 h4
  subst ha; subst hva; subst hcs
  refine x_aast (r := (RX2, TX2, 3)) C.x C.b C.ka.1.1 3 2 (h1.2 i _ hi) rfl (h1.2 iv _ hv) rfl (inb_in hin) hd (fun H1 he hz oq => ?_)
  exact kk H1 _ ls (h1.set he hz oq) (fun q hq => (oq q (by omega)).trans (h2 q hq)) (ga_locs h3 (Nat.le_add_right _ _)) h4
theorem pcA_blind {av : List Value} : FrameBlind (pcA D cy n0 av cs) := fun a U g mk q => ⟨q.1, q.2.1, KA.same (u := U) rfl q.2.2⟩
theorem pcA_pre {av : List Value} {H : Heap} (C : OkA D cy E cc nL own h mc ms) (h1 : Blk D n0 cs H) : ∀ U : State, U.heap = H → (eS E).WarmedH U.vm → pcA D cy n0 av cs av.toArray U := fun U hU hW => ⟨rfl, by rw [hU]; exact h1, C.ka.warm hW⟩
theorem ga_run {H : Heap} {locs : List Loc} {ls : Array Slot} {s0 : List Value} {a0 : Array Value} {ds ds' : List va_E} (hr : va_Run E.1 E.2.1 E.2.2.1 E.2.2.2.1 E.2.2.2.2.1 E.2.2.2.2.2.1 E.2.2.2.2.2.2.1 E.2.2.2.2.2.2.2.1 E.2.2.2.2.2.2.2.2.1 E.2.2.2.2.2.2.2.2.2 H locs c k c' k' (F0 (eM E) pc ls s0) rest (qA D (n0 + cs.length) ds' a0) (fun q => n0 + cs.length ≤ q))
    (h1 : Blk D n0 (cs ++ ds) H) (h2 : ∀ q : Nat, q < n0 → H[q]? = (eS E).heap[q]?) (h3 : ∀ q ∈ locs, n0 ≤ q.base) (h4 : lv_has ls nL lv) (kk : GA D E nL n0 Q (pc + 3) lv rest (cs ++ ds') (c + c') (k + k')) : W E.1 E.2.1 E.2.2.1 E.2.2.2.1 E.2.2.2.2.1 E.2.2.2.2.2.1 E.2.2.2.2.2.2.1 E.2.2.2.2.2.2.2.1 E.2.2.2.2.2.2.2.2.1 E.2.2.2.2.2.2.2.2.2 H locs c k Q (F0 (eM E) pc ls s0) := by
  intro T hT X
  obtain ⟨v, st₀, t, T', L, h0, X', hL, e1, e2, ⟨hv, hR, hF⟩, st⟩ := hr T hT X
  cases hv
  have hq : ∀ q : Nat, q < n0 + cs.length → t.heap[q]? = H[q]? := fun q hq => by rw [← h0]; exact hF q hq
  obtain ⟨t2, a1, b1⟩ := kk t.heap (locs ++ L) ls (h1.join hR hq) (fun q hq2 => (hq q (by omega)).trans (h2 q hq2)) (fun q hq2 => (List.mem_append.mp hq2).elim (h3 q) (fun z => by have := hL q z; omega)) h4 T' e1 X'
  exact ⟨t2, st t2 a1, b1⟩
theorem ga_callIN {y : MethodName} {host : String} {bytes : ByteArray} {maxL h' idx a : Nat} {ds ds' : List va_E} (C : OkA D cy E cc nL own h mc ms) (hM : CtA D cy (eL E) y bytes maxL h' c' k' (n0 + cs.length) [.ref a] ds ds') (i : Nat) (hi : nestM[i]? = some (own, idx, y, host)) (hw : Cond.code y bytes maxL none ∈ base) (hini : Cond.initialized y.cls ∈ base) (hinst : Cond.instanceMethod y ∈ base) (hdd : y.name = "<init>" ∧ y.cls ≠ "java/lang/invoke/MethodHandle" ∧ y.cls ≠ "java/lang/invoke/VarHandle" ∧ (parseMethodDescriptor y.desc).map (fun d => d.parameters.length) = some 0) (hm : maxL ≤ 11) (hh : h' < h) (hW : (rest.map fun v => v.category).sum ≤ 8) (hd : decode cc pc = .ok (.invokespecial idx, 3)) (hb1 : c + c' ≤ mc) (hb2 : k + k' ≤ ms) {cs0 : List va_E} (hcs0 : cs ++ ds = cs0) {cs1 : List va_E} (hcs1 : cs ++ ds' = cs1)
    (kk : GA D E nL n0 Q (pc + 3) lv rest cs1 (c + c') (k + k')) : GA D E nL n0 Q pc lv (.ref a :: rest) cs0 c k := by
  intro H locs ls h1 h2 h3 h4
  subst hcs0; subst hcs1
  have hr := C.rm
  exact ga_run (va_runIN (As := []) (rest := rest) (n := 0) ⟨C.x, C.b, C.ml, C.ow, C.ts⟩ hM ⟨va_cnB 0 C.ts (fun w q => by rcases List.mem_cons.mp q with rfl | q; exact goodIn_base _ hw; exact goodIn_base w q) rfl rfl rfl (C.ka.1.m i hi) (C.ts _ hini) hdd.2 ⟨by show h' + 1 ≤ _; omega, by show 8 + (maxL + 11) + 30 * h' ≤ _; omega⟩, hdd.1, C.ts _ hinst⟩ ⟨pcA_blind, pcA_pre C h1.tail⟩ rfl rfl h4.1 rfl (lv_room hW) hd ⟨Nat.le_trans hb1 hr.2.2.1, Nat.le_trans hb2 hr.2.2.2⟩) h1 h2 h3 h4 kk
theorem ga_callI {y : MethodName} {bytes : ByteArray} {maxL h' idx a : Nat} {ds ds' : List va_E} (C : OkA D cy E cc nL own h mc ms) (hM : CtA D cy (eL E) y bytes maxL h' c' k' (n0 + cs.length) [.ref a] ds ds') (hw : Cond.code y bytes maxL none ∈ base) (hini : Cond.initialized y.cls ∈ base) (hinst : Cond.instanceMethod y ∈ base) (hlk : Cond.methodLink own idx y ∈ base) (hdd : y.name = "<init>" ∧ y.cls ≠ "java/lang/invoke/MethodHandle" ∧ y.cls ≠ "java/lang/invoke/VarHandle" ∧ (parseMethodDescriptor y.desc).map (fun d => d.parameters.length) = some 0) (hm : maxL ≤ 11) (hh : h' < h) (hW : (rest.map fun v => v.category).sum ≤ 8) (hd : decode cc pc = .ok (.invokespecial idx, 3)) (hb1 : c + c' ≤ mc) (hb2 : k + k' ≤ ms) {cs0 : List va_E} (hcs0 : cs ++ ds = cs0) {cs1 : List va_E} (hcs1 : cs ++ ds' = cs1)
    (kk : GA D E nL n0 Q (pc + 3) lv rest cs1 (c + c') (k + k')) : GA D E nL n0 Q pc lv (.ref a :: rest) cs0 c k := by
  intro H locs ls h1 h2 h3 h4
  subst hcs0; subst hcs1
  have hr := C.rm
  exact ga_run (va_runI (As := []) (rest := rest) (n := 0) ⟨C.x, C.b, C.ml, C.ow, C.ts⟩ hM (cwI 0 C.ts (fun w q => by rcases List.mem_cons.mp q with rfl | q; exact goodIn_base _ hw; exact goodIn_base w q) rfl rfl rfl (C.ts _ hini) (C.ts _ hlk) (C.ts _ hinst) hdd.1 hdd.2 ⟨by show h' + 1 ≤ _; omega, by show 8 + (maxL + 11) + 30 * h' ≤ _; omega⟩) ⟨pcA_blind, pcA_pre C h1.tail⟩ rfl rfl h4.1 rfl (lv_room hW) hd ⟨Nat.le_trans hb1 hr.2.2.1, Nat.le_trans hb2 hr.2.2.2⟩) h1 h2 h3 h4 kk
theorem ga_ret (C : OkA D cy E cc nL own h mc ms) (hr : E.2.2.2.2.2.2.2.2.1.sig.returnType = none) (hlk : E.2.2.2.2.2.2.2.2.1.locks = false) (hd : decode cc pc = .ok (.return_, 1)) : GA D E nL n0 (MQ E.2.2.2.2.2.2.2.1 (qA D n0 cs) E.2.2.2.2.2.2.1 (eS E) c k (fun q => n0 ≤ q)) pc lv [] cs c k :=
  fun H locs ls h1 h2 h3 h4 => W.vret C.x C.b hr (fun t ht _ => ⟨rfl, by rw [ht]; exact h1, fun q hq => by rw [ht]; exact h2 q hq⟩) h3 hd hlk
end GAROWS
