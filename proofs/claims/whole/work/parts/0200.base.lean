abbrev tysC (cy : Nat → ClassId) : List (ClassId × FieldType) := [(cy 0, .int), (cy 1, .long), (cy 2, .boolean), (cy 3, .object "TortoiseShelves$Sheet")]
abbrev nestF : List (String × Nat × String × String × String × String) := [("TortoiseShelves", 104, "TortoiseShelves$Island", "kinds", "[I", "TortoiseShelves"), ("TortoiseShelves", 107, "TortoiseShelves$Island", "cells", "[I", "TortoiseShelves"), ("TortoiseShelves", 110, "TortoiseShelves$Island", "books", "[I", "TortoiseShelves"), ("TortoiseShelves", 113, "TortoiseShelves$Island", "tipped", "[Z", "TortoiseShelves"), ("TortoiseShelves", 136, "TortoiseShelves$Island", "hour", "I", "TortoiseShelves"), ("TortoiseShelves", 196, "TortoiseShelves$Island", "fencedCells", "I", "TortoiseShelves"), ("TortoiseShelves", 210, "TortoiseShelves$Reader", "isle", "LTortoiseShelves$Island;", "TortoiseShelves"), ("TortoiseShelves", 220, "TortoiseShelves$Tape", "length", "I", "TortoiseShelves"), ("TortoiseShelves", 234, "TortoiseShelves$Sheet", "length", "I", "TortoiseShelves"), ("TortoiseShelves", 238, "TortoiseShelves$Sheet", "numbers", "[J", "TortoiseShelves"), ("TortoiseShelves", 249, "TortoiseShelves$Sheet", "bits", "I", "TortoiseShelves"), ("TortoiseShelves", 272, "TortoiseShelves$Island", "size", "I", "TortoiseShelves"), ("TortoiseShelves", 279, "TortoiseShelves$Reader", "readsIn", "I", "TortoiseShelves"), ("TortoiseShelves", 73, "TortoiseShelves$Island", "spots", "[I", "TortoiseShelves"), ("TortoiseShelves", 80, "TortoiseShelves$Island", "wetClocks", "I", "TortoiseShelves"), ("TortoiseShelves$Island", 101, "TortoiseShelves$Sheet", "numbers", "[J", "TortoiseShelves"), ("TortoiseShelves$Island", 96, "TortoiseShelves$Sheet", "length", "I", "TortoiseShelves"), ("TortoiseShelves$Reader", 55, "TortoiseShelves$Island", "fencedCells", "I", "TortoiseShelves"), ("TortoiseShelves$Tape", 110, "TortoiseShelves$Island", "wetClocks", "I", "TortoiseShelves"), ("TortoiseShelves$Tape", 113, "TortoiseShelves$Island", "spots", "[I", "TortoiseShelves")]
abbrev nestM : List (String × Nat × MethodName × String) := [("TortoiseShelves", 11, ⟨"TortoiseShelves$Island", "<init>", "()V"⟩, "TortoiseShelves"), ("TortoiseShelves", 24, ⟨"TortoiseShelves$Reader", "<init>", "()V"⟩, "TortoiseShelves"), ("TortoiseShelves", 31, ⟨"TortoiseShelves$Tape", "<init>", "()V"⟩, "TortoiseShelves"), ("TortoiseShelves", 42, ⟨"TortoiseShelves$Sheet", "<init>", "()V"⟩, "TortoiseShelves"), ("TortoiseShelves$Island", 41, ⟨"TortoiseShelves", "isBelow", "(II)Z"⟩, "TortoiseShelves"), ("TortoiseShelves$Reader", 11, ⟨"TortoiseShelves$Island", "<init>", "()V"⟩, "TortoiseShelves")]
theorem vfm {α β : Type} {f : α → Option β} : ∀ {l : List α} {w : List β}, l.map f = w.map some → l.filterMap f = w
  | [], [], _ => rfl
  | [], _ :: _, h => by cases h
  | _ :: _, [], h => by cases h
  | a :: l, b :: w, h => by
    rw [List.map_cons, List.map_cons] at h
    injection h with h1 h2
    rw [List.filterMap_cons, h1, vfm h2]
/-- what holds of the tables at a state: the classes, the array classes, the links between nest mates -/
def KN (D : va_G) (cy : Nat → ClassId) (U : State) : Prop :=
  va_K D vwCl (tysC cy) U ∧ (∀ q ∈ nestF, va_Nw (.fieldLinkNest q.1 q.2.1 q.2.2.1 q.2.2.2.1 q.2.2.2.2.1 q.2.2.2.2.2) U) ∧ ∀ q ∈ nestM, va_Nw (.methodLinkNest q.1 q.2.1 q.2.2.1 q.2.2.2) U
theorem KN.warm {D : va_G} {cy : Nat → ClassId} {s U : State} (hW : s.WarmedH U.vm) (h : KN D cy s) : KN D cy U :=
  ⟨va_K.moved hW.alike h.1, fun q hq => va_Nw.warmF hW (h.2.1 q hq), fun q hq => va_Nw.warmM hW (h.2.2 q hq)⟩
theorem KN.same {D : va_G} {cy : Nat → ClassId} {u U : State} (hv : u.vm = U.vm) (h : KN D cy u) : KN D cy U :=
  ⟨va_K.moved (by rw [hv]; exact Vm.Alike.refl _) h.1, fun q hq => va_Nw.same rfl hv (h.2.1 q hq), fun q hq => va_Nw.same rfl hv (h.2.2 q hq)⟩
theorem KN.f {D : va_G} {cy : Nat → ClassId} {s : State} (h : KN D cy s) (i : Nat) {a : String} {k : Nat} {b n d o : String} (hi : nestF[i]? = some (a, k, b, n, d, o)) {args : Array Value} : (Cond.fieldLinkNest a k b n d o).before args s = true :=
  va_Nw.use rfl (h.2.1 (a, k, b, n, d, o) (List.mem_of_getElem? hi))
theorem KN.m {D : va_G} {cy : Nat → ClassId} {s : State} (h : KN D cy s) (i : Nat) {a : String} {k : Nat} {y : MethodName} {o : String} (hi : nestM[i]? = some (a, k, y, o)) : va_Nw (.methodLinkNest a k y o) s :=
  h.2.2 (a, k, y, o) (List.mem_of_getElem? hi)
/-- a start: the arguments, the world, the tables (of a method that only reads) -/
def pcR (D : va_G) (cy : Nat → ClassId) (av : List Value) (w : va_W) : Array Value → State → Prop := fun v U => v = av.toArray ∧ va_P D vwCl w U.heap ∧ KN D cy U
/-- .. of a method that writes -/
def pcW (D : va_G) (cy : Nat → ClassId) (av : List Value) (w : va_W) (sz : Nat) : Array Value → State → Prop := fun v U => v = av.toArray ∧ U.heap.size = sz ∧ va_P D vwCl w U.heap ∧ KN D cy U ∧ va_D (fun _ => True) w
/-- .. of a method of its arguments alone -/
def pcS (av : List Value) : Array Value → State → Prop := fun v _ => v = av.toArray
def qB {S : Type} (D : va_G) (wO : S → va_W) (A : Nat → Prop) : S → State → Prop := fun u t => va_P D vwCl (wO u) t.heap ∧ va_D A (wO u)
theorem pcR_blind {D : va_G} {cy : Nat → ClassId} {av : List Value} {w : va_W} : FrameBlind (pcR D cy av w) := fun _ _ _ _ q => ⟨q.1, q.2.1, KN.same rfl q.2.2⟩
theorem pcW_blind {D : va_G} {cy : Nat → ClassId} {av : List Value} {w : va_W} {sz : Nat} : FrameBlind (pcW D cy av w sz) := fun _ _ _ _ q => ⟨q.1, q.2.1, q.2.2.1, KN.same rfl q.2.2.2.1, q.2.2.2.2⟩
theorem pcS_blind {av : List Value} : FrameBlind (pcS av) := fun _ _ _ _ q => q
theorem pcR_pre {D : va_G} {cy : Nat → ClassId} {av : List Value} {w : va_W} {s : State} {H : Heap} (hK : KN D cy s) (hP : va_P D vwCl w H) : ∀ U : State, U.heap = H → s.WarmedH U.vm → pcR D cy av w av.toArray U := fun U hU hW => ⟨rfl, by rw [hU]; exact hP, hK.warm hW⟩
theorem pcW_pre {D : va_G} {cy : Nat → ClassId} {av : List Value} {w : va_W} {A : Nat → Prop} {s : State} {H : Heap} (hK : KN D cy s) (hP : va_P D vwCl w H) (hD : va_D A w) : ∀ U : State, U.heap = H → s.WarmedH U.vm → pcW D cy av w H.size av.toArray U := fun U hU hW => ⟨rfl, by rw [hU], by rw [hU]; exact hP, hK.warm hW, hD.weaken (fun _ _ _ _ => trivial)⟩
/-- the room of a method that makes nothing, h calls deep -/
abbrev rmH (h : Nat) : Room := { frames := h, cells := 0, slots := 0, locals := 30 * h }
section MT
variable {l : Launch} {y : MethodName} {ws ws' : List Cond} {rm : Room} {D : va_G} {cy : Nat → ClassId} {av : List Value} {w : va_W} {cc : ByteArray} {maxL : Nat} {ret : Option FieldType} {Qc : Array Value → State → Outcome → State → Prop}
theorem metR (hy : plainName y.cls = true) (hw : ws = Cond.code y cc maxL ret :: ws') (hlen : (lg_sl av).length ≤ maxL)
    (body : ∀ (p : Program) (e : Env) (s : State) (m : MethodId) (below : List Frame) (meth : Method) (c : Code) (ls : Array Slot), p.tables.exec = Jvm.exec → c.code = cc → meth.sig.returnType = ret → (∀ w ∈ ws, w.before av.toArray s = true) → s.vm.findClass y.cls = some m.cls → meth.locks = false → c.maxLocals = maxL → va_P D vwCl w s.heap → KN D cy s → lv_has ls maxL (lv_args 0 av) →
      W p l e rm s m av.toArray below meth c s.heap [] 0 0 (MQ below Qc av.toArray s 0 0 (fun _ => False)) (F0 m 0 ls [])) : Met l y ws rm (pcR D cy av w) Qc 0 0 (fun _ => False) := by
  refine Met.ofW (cc := cc) (maxL := maxL) (ret := ret) hy hw ?_
  intro p e s m args below meth c s₁ B hml hv
  obtain ⟨rfl, hP, hK⟩ := hv
  rw [lg_entry_eq]
  exact body p e s m below meth c _ B.exec B.bytes B.returns (atoms_spec (ws := ws) B.pre) (findClass_of_methodNamed B.named) B.notSynchronized hml hP hK (lv_entry av hlen)
theorem metS (hy : plainName y.cls = true) (hw : ws = Cond.code y cc maxL ret :: ws') (hlen : (lg_sl av).length ≤ maxL)
    (body : ∀ (p : Program) (e : Env) (s : State) (m : MethodId) (below : List Frame) (meth : Method) (c : Code) (ls : Array Slot), p.tables.exec = Jvm.exec → c.code = cc → meth.sig.returnType = ret → (∀ w ∈ ws, w.before av.toArray s = true) → s.vm.findClass y.cls = some m.cls → meth.locks = false → c.maxLocals = maxL → lv_has ls maxL (lv_args 0 av) →
      W p l e rm s m av.toArray below meth c s.heap [] 0 0 (MQ below Qc av.toArray s 0 0 (fun _ => False)) (F0 m 0 ls [])) : Met l y ws rm (pcS av) Qc 0 0 (fun _ => False) := by
  refine Met.ofW (cc := cc) (maxL := maxL) (ret := ret) hy hw ?_
  intro p e s m args below meth c s₁ B hml hv
  obtain rfl : args = av.toArray := hv
  rw [lg_entry_eq]
  exact body p e s m below meth c _ B.exec B.bytes B.returns (atoms_spec (ws := ws) B.pre) (findClass_of_methodNamed B.named) B.notSynchronized hml (lv_entry av hlen)
theorem metW {sz mc ms : Nat} (hy : plainName y.cls = true) (hw : ws = Cond.code y cc maxL ret :: ws') (hlen : (lg_sl av).length ≤ maxL)
    (body : ∀ (p : Program) (e : Env) (s : State) (m : MethodId) (below : List Frame) (meth : Method) (c : Code) (ls : Array Slot), p.tables.exec = Jvm.exec → c.code = cc → meth.sig.returnType = ret → (∀ w ∈ ws, w.before av.toArray s = true) → s.vm.findClass y.cls = some m.cls → meth.locks = false → c.maxLocals = maxL → va_P D vwCl w s.heap → KN D cy s → va_D (va_A w sz) w → va_S (va_A w sz) s.heap s.heap [] → (∀ q : Nat, s.heap.size ≤ q → va_A w sz q) → lv_has ls maxL (lv_args 0 av) →
      W p l e rm s m av.toArray below meth c s.heap [] 0 0 (MQ below Qc av.toArray s mc ms (va_A w sz)) (F0 m 0 ls [])) : Met l y ws rm (pcW D cy av w sz) Qc mc ms (va_A w sz) := by
  refine Met.ofW (cc := cc) (maxL := maxL) (ret := ret) hy hw ?_
  intro p e s m args below meth c s₁ B hml hv
  obtain ⟨rfl, rfl, hP, hK, hD⟩ := hv
  rw [lg_entry_eq]
  exact body p e s m below meth c _ B.exec B.bytes B.returns (atoms_spec (ws := ws) B.pre) (findClass_of_methodNamed B.named) B.notSynchronized hml hP hK hD.self va_S.rf (fun q h => Or.inr h) (lv_entry av hlen)
end MT
section RT
variable {p : Program} {l : Launch} {e : Env} {R : Room} {s : State} {m : MethodId} {args : Array Value} {below : List Frame} {meth : Method} {c : Code} {H : Heap} {locs : List Loc} {cells slots : Nat} {cc : ByteArray} {pc : Nat} {ls : Array Slot}
theorem retRi {post : Int32 → Prop} {v : Int32} (hx : p.tables.exec = Jvm.exec) (hb : c.code = cc) (hr : meth.sig.returnType = some .int) (hlocks : meth.locks = false) (h : post v) (hdg : decode cc pc = .ok (.ireturn, 1)) : W p l e R s m args below meth c s.heap [] cells slots (MQ below (vp_Si post) args s cells slots (fun _ => False)) (F0 m pc ls [.int v]) :=
  W.iret hx hb hr (fun t ht _ => ⟨v, rfl, h, ht⟩) (fun _ h => by cases h) hdg hlocks
theorem retRz {post : Int32 → Prop} {v : Int32} (hx : p.tables.exec = Jvm.exec) (hb : c.code = cc) (hr : meth.sig.returnType = some .boolean) (hlocks : meth.locks = false) (hn : narrow .boolean (.int v) = .int v) (h : post v) (hdg : decode cc pc = .ok (.ireturn, 1)) : W p l e R s m args below meth c s.heap [] cells slots (MQ below (vp_Si post) args s cells slots (fun _ => False)) (F0 m pc ls [.int v]) :=
  W.zret hx hb hr hn (fun t ht _ => ⟨v, rfl, h, ht⟩) (fun _ h => by cases h) hdg hlocks
theorem retRl {post : Int64 → Prop} {v : Int64} (hx : p.tables.exec = Jvm.exec) (hb : c.code = cc) (hr : meth.sig.returnType = some .long) (hlocks : meth.locks = false) (h : post v) (hdg : decode cc pc = .ok (.lreturn, 1)) : W p l e R s m args below meth c s.heap [] cells slots (MQ below (vp_Sl post) args s cells slots (fun _ => False)) (F0 m pc ls [.long v]) :=
  W.lret hx hb hr (fun t ht _ => ⟨v, rfl, h, ht⟩) (fun _ h => by cases h) hdg (hlocks := hlocks)
variable {S : Type} {D : va_G} {wO : S → va_W} {A : Nat → Prop}
theorem retWi {F : Int32 × S} {v : Int32} {u : S} (hx : p.tables.exec = Jvm.exec) (hb : c.code = cc) (hr : meth.sig.returnType = some .int) (hlocks : meth.locks = false) (hf : F = (v, u)) (hP : va_P D vwCl (wO u) H) (hD : va_D A (wO u)) (hS : va_S A s.heap H locs) (hdg : decode cc pc = .ok (.ireturn, 1)) : W p l e R s m args below meth c H locs cells slots (MQ below (va_Qi (fun r u => r = F.1 ∧ u = F.2) (qB D wO A) A) args s cells slots A) (F0 m pc ls [.int v]) :=
  W.iret hx hb hr (fun t ht _ => ⟨⟨v, u, rfl, ⟨by rw [hf], by rw [hf]⟩, by rw [ht]; exact hP, hD⟩, hS.F ht⟩) hS.2.2 hdg hlocks
theorem retWz {F : Int32 × S} {v : Int32} {u : S} (hx : p.tables.exec = Jvm.exec) (hb : c.code = cc) (hr : meth.sig.returnType = some .boolean) (hlocks : meth.locks = false) (hn : narrow .boolean (.int v) = .int v) (hf : F = (v, u)) (hP : va_P D vwCl (wO u) H) (hD : va_D A (wO u)) (hS : va_S A s.heap H locs) (hdg : decode cc pc = .ok (.ireturn, 1)) : W p l e R s m args below meth c H locs cells slots (MQ below (va_Qi (fun r u => r = F.1 ∧ u = F.2) (qB D wO A) A) args s cells slots A) (F0 m pc ls [.int v]) :=
  W.zret hx hb hr hn (fun t ht _ => ⟨⟨v, u, rfl, ⟨by rw [hf], by rw [hf]⟩, by rw [ht]; exact hP, hD⟩, hS.F ht⟩) hS.2.2 hdg hlocks
theorem retWl {F : Int64 × S} {v : Int64} {u : S} (hx : p.tables.exec = Jvm.exec) (hb : c.code = cc) (hr : meth.sig.returnType = some .long) (hlocks : meth.locks = false) (hf : F = (v, u)) (hP : va_P D vwCl (wO u) H) (hD : va_D A (wO u)) (hS : va_S A s.heap H locs) (hdg : decode cc pc = .ok (.lreturn, 1)) : W p l e R s m args below meth c H locs cells slots (MQ below (va_Ql (fun r u => r = F.1 ∧ u = F.2) (qB D wO A) A) args s cells slots A) (F0 m pc ls [.long v]) :=
  W.lret hx hb hr (fun t ht _ => ⟨⟨v, u, rfl, ⟨by rw [hf], by rw [hf]⟩, by rw [ht]; exact hP, hD⟩, hS.F ht⟩) hS.2.2 hdg (hlocks := hlocks)
theorem retWv {F : S} {u : S} (hx : p.tables.exec = Jvm.exec) (hb : c.code = cc) (hr : meth.sig.returnType = none) (hlocks : meth.locks = false) (hf : F = u) (hP : va_P D vwCl (wO u) H) (hD : va_D A (wO u)) (hS : va_S A s.heap H locs) (hdg : decode cc pc = .ok (.return_, 1)) : W p l e R s m args below meth c H locs cells slots (MQ below (va_Qv (fun u => u = F) (qB D wO A) A) args s cells slots A) (F0 m pc ls []) :=
  W.vret hx hb hr (fun t ht _ => ⟨⟨u, rfl, hf.symm, by rw [ht]; exact hP, hD⟩, hS.F ht⟩) hS.2.2 hdg hlocks
end RT
section CL
variable {p : Program} {l : Launch} {e : Env} {R : Room} {s : State} {m : MethodId} {args : Array Value} {below : List Frame} {meth : Method} {c : Code} {H : Heap} {locs : List Loc} {cells slots : Nat} {Q : State → Prop} {cc : ByteArray} {pc : Nat} {ls : Array Slot}
variable {y : MethodName} {bytes : ByteArray} {maxL nL index n : Nat} {ret : Option FieldType} {ws ws' Ts : List Cond} {rm : Room} {own C : String} {b : Addr} {As rest st : List Value} {D : va_G} {cy : Nat → ClassId} {wc : va_W}
/-- a static method of its arguments alone -/
theorem callSi {post : Int32 → Prop} (S : CallFix p m c cc nL s args Ts own) (hM : Met l y ws rm (pcS As) (vp_Si post) 0 0 (fun _ => False)) (hT : GoodIn Ts (va_wsS own index y ws)) (hw : ws = Cond.code y bytes maxL ret :: ws')
    (hd : y.cls ≠ "java/lang/invoke/MethodHandle" ∧ y.cls ≠ "java/lang/invoke/VarHandle" ∧ (parseMethodDescriptor y.desc).map (fun d => d.parameters.length) = some n) (hrc : rm.cells = 0) (hrs : rm.slots = 0) (hR : rm.frames + 1 ≤ R.frames ∧ 8 + (maxL + 11) + rm.locals ≤ R.locals)
    (hn : As.length = n) (hsize : ls.size = nL) (hst : st = As.reverse ++ rest) (hW : (rest.map fun v => v.category).sum ≤ 8) (hdg : decode cc pc = .ok (.invokestatic index, 3)) (hf : cells ≤ R.cells ∧ slots ≤ R.slots)
    (kk : ∀ r : Int32, post r → W p l e R s m args below meth c H locs cells slots Q (F0 m (pc + 3) ls (.int r :: rest))) : W p l e R s m args below meth c H locs cells slots Q (F0 m pc ls st) :=
  vp_callSi (va_Run.run (va_runS S hM (va_cwS n S.2.2.2.2 hT hw hrc hrs hd hR) ⟨pcS_blind, fun _ _ _ => rfl⟩ rfl hn hsize hst (lv_room hW) hdg hf)) kk
/-- .. of a nest mate -/
theorem callNi {post : Int32 → Prop} {host : String} (S : CallFix p m c cc nL s args Ts own) (hM : Met l y ws rm (pcS As) (vp_Si post) 0 0 (fun _ => False)) (hG : GoodIn Ts ws) (hw : ws = Cond.code y bytes maxL ret :: ws') (hl : va_Nw (.methodLinkNest own index y host) s) (hini : (Cond.initialized y.cls).before args s = true) (hstat : (Cond.static y).before args s = true)
    (hd : y.cls ≠ "java/lang/invoke/MethodHandle" ∧ y.cls ≠ "java/lang/invoke/VarHandle" ∧ (parseMethodDescriptor y.desc).map (fun d => d.parameters.length) = some n) (hrc : rm.cells = 0) (hrs : rm.slots = 0) (hR : rm.frames + 1 ≤ R.frames ∧ 8 + (maxL + 11) + rm.locals ≤ R.locals)
    (hn : As.length = n) (hsize : ls.size = nL) (hst : st = As.reverse ++ rest) (hW : (rest.map fun v => v.category).sum ≤ 8) (hdg : decode cc pc = .ok (.invokestatic index, 3)) (hf : cells ≤ R.cells ∧ slots ≤ R.slots)
    (kk : ∀ r : Int32, post r → W p l e R s m args below meth c H locs cells slots Q (F0 m (pc + 3) ls (.int r :: rest))) : W p l e R s m args below meth c H locs cells slots Q (F0 m pc ls st) :=
  vp_callSi (va_Run.run (va_runSN S hM ⟨va_cnB n S.2.2.2.2 hG hw hrc hrs hl hini hd hR, hstat, trivial⟩ ⟨pcS_blind, fun _ _ _ => rfl⟩ rfl hn hsize hst (lv_room hW) hdg hf)) kk
/-- an instance method that only reads -/
theorem callVi {post : Int32 → Prop} {q : vw_C} {ci : Nat} {fs : List Value} (S : CallFix p m c cc nL s args Ts own) (hM : Met l y ws rm (pcR D cy (.ref b :: As) wc) (vp_Si post) 0 0 (fun _ => False)) (hT : GoodIn Ts (wsV own index q.1 y ws)) (hw : ws = Cond.code y bytes maxL ret :: ws')
    (hd : y.cls = q.1 ∧ y.cls ≠ "java/lang/invoke/MethodHandle" ∧ y.cls ≠ "java/lang/invoke/VarHandle" ∧ (parseMethodDescriptor y.desc).map (fun d => d.parameters.length) = some n) (hrc : rm.cells = 0) (hrs : rm.slots = 0) (hR : rm.frames + 1 ≤ R.frames ∧ 8 + (maxL + 11) + rm.locals ≤ R.locals)
    (hK : KN D cy s) (hP : va_P D vwCl wc H) (hc : vwCl[ci]? = some q) (he : wc[0]? = some (b, .inr (ci, fs)))
    (hn : As.length = n) (hsize : ls.size = nL) (hst : st = As.reverse ++ .ref b :: rest) (hW : (rest.map fun v => v.category).sum ≤ 8) (hdg : decode cc pc = .ok (.invokevirtual index, 3)) (hf : cells ≤ R.cells ∧ slots ≤ R.slots)
    (kk : ∀ r : Int32, post r → W p l e R s m args below meth c H locs cells slots Q (F0 m (pc + 3) ls (.int r :: rest))) : W p l e R s m args below meth c H locs cells slots Q (F0 m pc ls st) :=
  vp_callSi (W.runV S hM (cwV n S.2.2.2.2 hT hw hrc hrs hd hR) ⟨pcR_blind, va_recv hK.1 hP hc he, pcR_pre hK hP⟩ rfl hn hsize hst (lv_room hW) hdg hf) kk
theorem vp_callSl' {post : Int64 → Prop} {a : Array Value} {st0 : List Value} (hr : CallRun p l e R s m args below meth c H locs cells slots 0 0 (F0 m pc ls st0) rest (vp_Sl post a) (fun _ => False))
    (kk : ∀ r : Int64, post r → W p l e R s m args below meth c H locs cells slots Q (F0 m (pc + 3) ls (.long r :: rest))) : W p l e R s m args below meth c H locs cells slots Q (F0 m pc ls st0) := by
  intro T hT X
  obtain ⟨v, st₀, t, T', L, h0, X', hL, e1, ⟨r, hv, hp, hh⟩, st⟩ := hr T hT X
  cases hv
  obtain ⟨t2, a1, b1⟩ := kk r hp T' (by rw [e1, hh, h0]) (Stand.forget X' (fun q h => (hL q h).elim))
  exact ⟨t2, st t2 a1, b1⟩
theorem callVl {post : Int64 → Prop} {q : vw_C} {ci : Nat} {fs : List Value} (S : CallFix p m c cc nL s args Ts own) (hM : Met l y ws rm (pcR D cy (.ref b :: As) wc) (vp_Sl post) 0 0 (fun _ => False)) (hT : GoodIn Ts (wsV own index q.1 y ws)) (hw : ws = Cond.code y bytes maxL ret :: ws')
    (hd : y.cls = q.1 ∧ y.cls ≠ "java/lang/invoke/MethodHandle" ∧ y.cls ≠ "java/lang/invoke/VarHandle" ∧ (parseMethodDescriptor y.desc).map (fun d => d.parameters.length) = some n) (hrc : rm.cells = 0) (hrs : rm.slots = 0) (hR : rm.frames + 1 ≤ R.frames ∧ 8 + (maxL + 11) + rm.locals ≤ R.locals)
    (hK : KN D cy s) (hP : va_P D vwCl wc H) (hc : vwCl[ci]? = some q) (he : wc[0]? = some (b, .inr (ci, fs)))
    (hn : As.length = n) (hsize : ls.size = nL) (hst : st = As.reverse ++ .ref b :: rest) (hW : (rest.map fun v => v.category).sum ≤ 8) (hdg : decode cc pc = .ok (.invokevirtual index, 3)) (hf : cells ≤ R.cells ∧ slots ≤ R.slots)
    (kk : ∀ r : Int64, post r → W p l e R s m args below meth c H locs cells slots Q (F0 m (pc + 3) ls (.long r :: rest))) : W p l e R s m args below meth c H locs cells slots Q (F0 m pc ls st) :=
  vp_callSl' (W.runV S hM (cwV n S.2.2.2.2 hT hw hrc hrs hd hR) ⟨pcR_blind, va_recv hK.1 hP hc he, pcR_pre hK hP⟩ rfl hn hsize hst (lv_room hW) hdg hf) kk
theorem callSl {post : Int64 → Prop} (S : CallFix p m c cc nL s args Ts own) (hM : Met l y ws rm (pcS As) (vp_Sl post) 0 0 (fun _ => False)) (hT : GoodIn Ts (va_wsS own index y ws)) (hw : ws = Cond.code y bytes maxL ret :: ws')
    (hd : y.cls ≠ "java/lang/invoke/MethodHandle" ∧ y.cls ≠ "java/lang/invoke/VarHandle" ∧ (parseMethodDescriptor y.desc).map (fun d => d.parameters.length) = some n) (hrc : rm.cells = 0) (hrs : rm.slots = 0) (hR : rm.frames + 1 ≤ R.frames ∧ 8 + (maxL + 11) + rm.locals ≤ R.locals)
    (hn : As.length = n) (hsize : ls.size = nL) (hst : st = As.reverse ++ rest) (hW : (rest.map fun v => v.category).sum ≤ 8) (hdg : decode cc pc = .ok (.invokestatic index, 3)) (hf : cells ≤ R.cells ∧ slots ≤ R.slots)
    (kk : ∀ r : Int64, post r → W p l e R s m args below meth c H locs cells slots Q (F0 m (pc + 3) ls (.long r :: rest))) : W p l e R s m args below meth c H locs cells slots Q (F0 m pc ls st) :=
  vp_callSl' (va_Run.run (va_runS S hM (va_cwS n S.2.2.2.2 hT hw hrc hrs hd hR) ⟨pcS_blind, fun _ _ _ => rfl⟩ rfl hn hsize hst (lv_room hW) hdg hf)) kk
variable {Sx : Type} {wO : Sx → va_W} {A0 : Nat → Prop} {H0 : Heap} {w wr : va_W}
/-- an instance method that writes: its world is cut out of w by the places isC, the rest by isR; behind it wn, by the places pl of the rest and what came back -/
theorem callVWi {post : Int32 → Sx → Prop} {q : vw_C} {ci : Nat} {fs : List Value} {wn : Sx → va_W} (S : CallFix p m c cc nL s args Ts own) (hM : Met l y ws rm (pcW D cy (.ref b :: As) wc H.size) (va_Qi post (qB D wO (va_A wc H.size)) (va_A wc H.size)) 0 0 (va_A wc H.size)) (hT : GoodIn Ts (wsV own index q.1 y ws)) (hw : ws = Cond.code y bytes maxL ret :: ws')
    (hd : y.cls = q.1 ∧ y.cls ≠ "java/lang/invoke/MethodHandle" ∧ y.cls ≠ "java/lang/invoke/VarHandle" ∧ (parseMethodDescriptor y.desc).map (fun d => d.parameters.length) = some n) (hrc : rm.cells = 0) (hrs : rm.slots = 0) (hR : rm.frames + 1 ≤ R.frames ∧ 8 + (maxL + 11) + rm.locals ≤ R.locals)
    (hK : KN D cy s) (hP : va_P D vwCl w H) (hD : va_D A0 w) (hS : va_S A0 H0 H locs) (hA : ∀ q : Nat, H0.size ≤ q → A0 q) (isC isR pl : List Nat) (hC : isC.map (fun i => w[i]?) = wc.map some) (hCn : va_nd isC = true) (hRr : isR.map (fun i => w[i]?) = wr.map some) (hRn : va_nd isR = true) (hdis : ∀ i ∈ isR, i ∉ isC) (hpn : va_nd pl = true) (hpl : ∀ u : Sx, pl.map (fun i => (wr ++ wO u)[i]?) = (wn u).map some)
    (hc : vwCl[ci]? = some q) (he : wc[0]? = some (b, .inr (ci, fs)))
    (hn : As.length = n) (hsize : ls.size = nL) (hst : st = As.reverse ++ .ref b :: rest) (hW : (rest.map fun v => v.category).sum ≤ 8) (hdg : decode cc pc = .ok (.invokevirtual index, 3)) (hf : cells ≤ R.cells ∧ slots ≤ R.slots)
    (kk : ∀ (r : Int32) (u : Sx) (H1 : Heap) (locs1 : List Loc), post r u → va_P D vwCl (wn u) H1 → va_D A0 (wn u) → va_S A0 H0 H1 locs1 → W p l e R s m args below meth c H1 locs1 cells slots Q (F0 m (pc + 3) ls (.int r :: rest))) : W p l e R s m args below meth c H locs cells slots Q (F0 m pc ls st) := by
  have hPc : va_P D vwCl wc H := hP.sub isC (vfm hC)
  have hDc : va_D A0 wc := hD.sub isC hCn hC
  have hFc := va_free (wc := wc) hD hS hA isC hC
  refine va_calli (va_runV S hM (cwV n S.2.2.2.2 hT hw hrc hrs hd hR) ⟨pcW_blind, va_recv hK.1 hPc hc he, pcW_pre hK hPc hDc⟩ rfl hn hsize hst (lv_room hW) hdg hf) hS (fun q _ h => hFc q h) hFc (fun r u t H1 locs1 ht hvm hw hB hz1 hk1 hS1 => ?_)
  obtain ⟨hP1, hD1⟩ := hB
  rw [ht] at hP1
  obtain ⟨hP2, hD2⟩ := va_join hP hD isC isR hC hRr hRn hdis hk1 hFc hP1 hD1
  exact kk r u H1 locs1 hw (hP2.sub pl (vfm (hpl u))) (hD2.sub pl hpn (hpl u)) hS1
theorem callVWv {post : Sx → Prop} {q : vw_C} {ci : Nat} {fs : List Value} {wn : Sx → va_W} (S : CallFix p m c cc nL s args Ts own) (hM : Met l y ws rm (pcW D cy (.ref b :: As) wc H.size) (va_Qv post (qB D wO (va_A wc H.size)) (va_A wc H.size)) 0 0 (va_A wc H.size)) (hT : GoodIn Ts (wsV own index q.1 y ws)) (hw : ws = Cond.code y bytes maxL ret :: ws')
    (hd : y.cls = q.1 ∧ y.cls ≠ "java/lang/invoke/MethodHandle" ∧ y.cls ≠ "java/lang/invoke/VarHandle" ∧ (parseMethodDescriptor y.desc).map (fun d => d.parameters.length) = some n) (hrc : rm.cells = 0) (hrs : rm.slots = 0) (hR : rm.frames + 1 ≤ R.frames ∧ 8 + (maxL + 11) + rm.locals ≤ R.locals)
    (hK : KN D cy s) (hP : va_P D vwCl w H) (hD : va_D A0 w) (hS : va_S A0 H0 H locs) (hA : ∀ q : Nat, H0.size ≤ q → A0 q) (isC isR pl : List Nat) (hC : isC.map (fun i => w[i]?) = wc.map some) (hCn : va_nd isC = true) (hRr : isR.map (fun i => w[i]?) = wr.map some) (hRn : va_nd isR = true) (hdis : ∀ i ∈ isR, i ∉ isC) (hpn : va_nd pl = true) (hpl : ∀ u : Sx, pl.map (fun i => (wr ++ wO u)[i]?) = (wn u).map some)
    (hc : vwCl[ci]? = some q) (he : wc[0]? = some (b, .inr (ci, fs)))
    (hn : As.length = n) (hsize : ls.size = nL) (hst : st = As.reverse ++ .ref b :: rest) (hW : (rest.map fun v => v.category).sum ≤ 8) (hdg : decode cc pc = .ok (.invokevirtual index, 3)) (hf : cells ≤ R.cells ∧ slots ≤ R.slots)
    (kk : ∀ (u : Sx) (H1 : Heap) (locs1 : List Loc), post u → va_P D vwCl (wn u) H1 → va_D A0 (wn u) → va_S A0 H0 H1 locs1 → W p l e R s m args below meth c H1 locs1 cells slots Q (F0 m (pc + 3) ls rest)) : W p l e R s m args below meth c H locs cells slots Q (F0 m pc ls st) := by
  have hPc : va_P D vwCl wc H := hP.sub isC (vfm hC)
  have hDc : va_D A0 wc := hD.sub isC hCn hC
  have hFc := va_free (wc := wc) hD hS hA isC hC
  refine va_callv (va_runV S hM (cwV n S.2.2.2.2 hT hw hrc hrs hd hR) ⟨pcW_blind, va_recv hK.1 hPc hc he, pcW_pre hK hPc hDc⟩ rfl hn hsize hst (lv_room hW) hdg hf) hS (fun q _ h => hFc q h) hFc (fun u t H1 locs1 ht hvm hw hB hz1 hk1 hS1 => ?_)
  obtain ⟨hP1, hD1⟩ := hB
  rw [ht] at hP1
  obtain ⟨hP2, hD2⟩ := va_join hP hD isC isR hC hRr hRn hdis hk1 hFc hP1 hD1
  exact kk u H1 locs1 hw (hP2.sub pl (vfm (hpl u))) (hD2.sub pl hpn (hpl u)) hS1
theorem callVWl {post : Int64 → Sx → Prop} {q : vw_C} {ci : Nat} {fs : List Value} {wn : Sx → va_W} (S : CallFix p m c cc nL s args Ts own) (hM : Met l y ws rm (pcW D cy (.ref b :: As) wc H.size) (va_Ql post (qB D wO (va_A wc H.size)) (va_A wc H.size)) 0 0 (va_A wc H.size)) (hT : GoodIn Ts (wsV own index q.1 y ws)) (hw : ws = Cond.code y bytes maxL ret :: ws')
    (hd : y.cls = q.1 ∧ y.cls ≠ "java/lang/invoke/MethodHandle" ∧ y.cls ≠ "java/lang/invoke/VarHandle" ∧ (parseMethodDescriptor y.desc).map (fun d => d.parameters.length) = some n) (hrc : rm.cells = 0) (hrs : rm.slots = 0) (hR : rm.frames + 1 ≤ R.frames ∧ 8 + (maxL + 11) + rm.locals ≤ R.locals)
    (hK : KN D cy s) (hP : va_P D vwCl w H) (hD : va_D A0 w) (hS : va_S A0 H0 H locs) (hA : ∀ q : Nat, H0.size ≤ q → A0 q) (isC isR pl : List Nat) (hC : isC.map (fun i => w[i]?) = wc.map some) (hCn : va_nd isC = true) (hRr : isR.map (fun i => w[i]?) = wr.map some) (hRn : va_nd isR = true) (hdis : ∀ i ∈ isR, i ∉ isC) (hpn : va_nd pl = true) (hpl : ∀ u : Sx, pl.map (fun i => (wr ++ wO u)[i]?) = (wn u).map some)
    (hc : vwCl[ci]? = some q) (he : wc[0]? = some (b, .inr (ci, fs)))
    (hn : As.length = n) (hsize : ls.size = nL) (hst : st = As.reverse ++ .ref b :: rest) (hW : (rest.map fun v => v.category).sum ≤ 8) (hdg : decode cc pc = .ok (.invokevirtual index, 3)) (hf : cells ≤ R.cells ∧ slots ≤ R.slots)
    (kk : ∀ (r : Int64) (u : Sx) (H1 : Heap) (locs1 : List Loc), post r u → va_P D vwCl (wn u) H1 → va_D A0 (wn u) → va_S A0 H0 H1 locs1 → W p l e R s m args below meth c H1 locs1 cells slots Q (F0 m (pc + 3) ls (.long r :: rest))) : W p l e R s m args below meth c H locs cells slots Q (F0 m pc ls st) := by
  have hPc : va_P D vwCl wc H := hP.sub isC (vfm hC)
  have hDc : va_D A0 wc := hD.sub isC hCn hC
  have hFc := va_free (wc := wc) hD hS hA isC hC
  refine va_calll (va_runV S hM (cwV n S.2.2.2.2 hT hw hrc hrs hd hR) ⟨pcW_blind, va_recv hK.1 hPc hc he, pcW_pre hK hPc hDc⟩ rfl hn hsize hst (lv_room hW) hdg hf) hS (fun q _ h => hFc q h) hFc (fun r u t H1 locs1 ht hvm hw hB hz1 hk1 hS1 => ?_)
  obtain ⟨hP1, hD1⟩ := hB
  rw [ht] at hP1
  obtain ⟨hP2, hD2⟩ := va_join hP hD isC isR hC hRr hRn hdis hk1 hFc hP1 hD1
  exact kk r u H1 locs1 hw (hP2.sub pl (vfm (hpl u))) (hD2.sub pl hpn (hpl u)) hS1
end CL

