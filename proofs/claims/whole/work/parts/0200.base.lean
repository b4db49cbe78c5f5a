abbrev tysC (cy : Nat → ClassId) : List (ClassId × FieldType) := [(cy 0, .int), (cy 1, .long), (cy 2, .boolean), (cy 3, .object "TortoiseShelves$Sheet")]
abbrev nestF : List (String × Nat × String × String × String × String) := [("TortoiseShelves", 104, "TortoiseShelves$Island", "kinds", "[I", "TortoiseShelves"), ("TortoiseShelves", 107, "TortoiseShelves$Island", "cells", "[I", "TortoiseShelves"), ("TortoiseShelves", 110, "TortoiseShelves$Island", "books", "[I", "TortoiseShelves"), ("TortoiseShelves", 113, "TortoiseShelves$Island", "tipped", "[Z", "TortoiseShelves"), ("TortoiseShelves", 136, "TortoiseShelves$Island", "hour", "I", "TortoiseShelves"), ("TortoiseShelves", 196, "TortoiseShelves$Island", "fencedCells", "I", "TortoiseShelves"), ("TortoiseShelves", 210, "TortoiseShelves$Reader", "isle", "LTortoiseShelves$Island;", "TortoiseShelves"), ("TortoiseShelves", 220, "TortoiseShelves$Tape", "length", "I", "TortoiseShelves"), ("TortoiseShelves", 234, "TortoiseShelves$Sheet", "length", "I", "TortoiseShelves"), ("TortoiseShelves", 238, "TortoiseShelves$Sheet", "numbers", "[J", "TortoiseShelves"), ("TortoiseShelves", 249, "TortoiseShelves$Sheet", "bits", "I", "TortoiseShelves"), ("TortoiseShelves", 272, "TortoiseShelves$Island", "size", "I", "TortoiseShelves"), ("TortoiseShelves", 279, "TortoiseShelves$Reader", "readsIn", "I", "TortoiseShelves"), ("TortoiseShelves", 73, "TortoiseShelves$Island", "spots", "[I", "TortoiseShelves"), ("TortoiseShelves", 80, "TortoiseShelves$Island", "wetClocks", "I", "TortoiseShelves"), ("TortoiseShelves$Island", 101, "TortoiseShelves$Sheet", "numbers", "[J", "TortoiseShelves"), ("TortoiseShelves$Island", 96, "TortoiseShelves$Sheet", "length", "I", "TortoiseShelves"), ("TortoiseShelves$Reader", 55, "TortoiseShelves$Island", "fencedCells", "I", "TortoiseShelves"), ("TortoiseShelves$Tape", 110, "TortoiseShelves$Island", "wetClocks", "I", "TortoiseShelves"), ("TortoiseShelves$Tape", 113, "TortoiseShelves$Island", "spots", "[I", "TortoiseShelves")]
abbrev nestM : List (String × Nat × MethodName × String) := [("TortoiseShelves", 11, ⟨"TortoiseShelves$Island", "<init>", "()V"⟩, "TortoiseShelves"), ("TortoiseShelves", 24, ⟨"TortoiseShelves$Reader", "<init>", "()V"⟩, "TortoiseShelves"), ("TortoiseShelves", 31, ⟨"TortoiseShelves$Tape", "<init>", "()V"⟩, "TortoiseShelves"), ("TortoiseShelves", 42, ⟨"TortoiseShelves$Sheet", "<init>", "()V"⟩, "TortoiseShelves"), ("TortoiseShelves$Island", 41, ⟨"TortoiseShelves", "isBelow", "(II)Z"⟩, "TortoiseShelves"), ("TortoiseShelves$Reader", 11, ⟨"TortoiseShelves$Island", "<init>", "()V"⟩, "TortoiseShelves")]
/-! the abstract memory of a world, and the judgement GT: from here the machine ends as the tree t says -/
abbrev Mi : Type := Nat → Nat → Int32
abbrev Ml : Type := Nat → Nat → Int64
def sR {α : Type} (M : Nat → α) (r : Nat) (x : α) : Nat → α := fun q => if q = r then x else M q
theorem sR_same {α : Type} (M : Nat → α) (r : Nat) (x : α) : sR M r x r = x := if_pos rfl
theorem sR_ne {α : Type} (M : Nat → α) {r q : Nat} (x : α) (h : q ≠ r) : sR M r x q = M q := if_neg h
theorem sR_self {α : Type} (M : Nat → α) (r : Nat) : sR M r (M r) = M := by
  funext q
  by_cases h : q = r
  · subst h; exact sR_same _ _ _
  · exact sR_ne _ _ h
theorem sR_sR {α : Type} (M : Nat → α) (r : Nat) (x y : α) : sR (sR M r x) r y = sR M r y := by
  funext q
  by_cases h : q = r
  · subst h; rw [sR_same, sR_same]
  · rw [sR_ne _ _ h, sR_ne _ _ h, sR_ne _ _ h]
/-- a write of an int at a place of a region -/
def wM (M : Mi) (r k : Nat) (v : Int32) : Mi := sR M r (upd (M r) k v)
def wN (N : Ml) (r k : Nat) (v : Int64) : Ml := sR N r (vp_updL (N r) k v)
theorem wM_sR (M : Mi) (r : Nat) (σ : Nat → Int32) (k : Nat) (v : Int32) : wM (sR M r σ) r k v = sR M r (upd σ k v) := by
  unfold wM; rw [sR_same, sR_sR]
theorem sR_at (M : Mi) (r : Nat) (σ : Nat → Int32) (k : Nat) : sR M r σ r k = σ k := by rw [sR_same]
theorem sR_off (M : Mi) {r q : Nat} (σ : Nat → Int32) (k : Nat) (h : q ≠ r) : sR M r σ q k = M q k := by rw [sR_ne _ _ h]
/-- the constants of a world: slots of classes, array classes, addresses, what the cells hold, what else holds -/
abbrev Zt : Type := va_G × (Nat → ClassId) × (Nat → Nat → Nat) × (Nat → (Nat → Int32) → (Nat → Int64) → Nat → Option va_E) × (State → Prop)
abbrev zA (Z : Zt) : Nat → Nat → Nat := Z.2.2.1
abbrev zL (Z : Zt) : Nat → (Nat → Int32) → (Nat → Int64) → Nat → Option va_E := Z.2.2.2.1
abbrev zS (Z : Zt) : State → Prop := Z.2.2.2.2
def InA (Z : Zt) (q : Nat) : Prop := ∃ (g p : Nat) (σ : Nat → Int32) (ν : Nat → Int64) (e : va_E), zL Z g σ ν p = some e ∧ q = zA Z g p
def Rep (Z : Zt) (M : Mi) (N : Ml) (H : Heap) : Prop := ∀ (g p : Nat) (e : va_E), zL Z g (M g) (N g) p = some e → va_at Z.1 vwCl (zA Z g p, e) H
def Apart (Z : Zt) : Prop := ∀ (g p g' p' : Nat) (σ σ' : Nat → Int32) (ν ν' : Nat → Int64) (e e' : va_E), zL Z g σ ν p = some e → zL Z g' σ' ν' p' = some e' → zA Z g p = zA Z g' p' → g = g' ∧ p = p'
def Fr (Z : Zt) (H0 H : Heap) : Prop := H.size = H0.size ∧ ∀ q : Nat, ¬ InA Z q → H[q]? = H0[q]?
theorem Fr.rf {Z : Zt} {H : Heap} : Fr Z H H := ⟨rfl, fun _ _ => rfl⟩
theorem Fr.trans {Z : Zt} {H0 H1 H2 : Heap} (h : Fr Z H0 H1) (k : Fr Z H1 H2) : Fr Z H0 H2 := ⟨k.1.trans h.1, fun q hq => (k.2 q hq).trans (h.2 q hq)⟩
theorem Fr.set {Z : Zt} {H0 H H1 : Heap} {a : Nat} (h : Fr Z H0 H) (ha : InA Z a) (hz : H1.size = H.size) (oq : ∀ q : Nat, q ≠ a → H1[q]? = H[q]?) : Fr Z H0 H1 :=
  ⟨hz.trans h.1, fun q hq => (oq q (fun e => hq (e ▸ ha))).trans (h.2 q hq)⟩
theorem Rep.put {Z : Zt} {M : Mi} {N : Ml} {H H1 : Heap} {g p : Nat} {σ : Nat → Int32} {ν : Nat → Int64} {e0 e1 : va_E} (h : Rep Z M N H) (hA : Apart Z) (h0 : zL Z g (M g) (N g) p = some e0) (h1 : zL Z g σ ν p = some e1) (he : va_at Z.1 vwCl (zA Z g p, e1) H1) (oq : ∀ q : Nat, q ≠ zA Z g p → H1[q]? = H[q]?)
    (ho : ∀ (p' : Nat) (e : va_E), p' ≠ p → zL Z g σ ν p' = some e → zL Z g (M g) (N g) p' = some e) : Rep Z (sR M g σ) (sR N g ν) H1 := by
  intro g' p' e he'
  by_cases hg : g' = g
  · subst hg
    rw [sR_same, sR_same] at he'
    by_cases hp : p' = p
    · subst hp
      rw [h1] at he'
      cases he'
      exact he
    · exact (h g' p' e (ho p' e hp he')).kept (oq _ (fun q => hp (hA _ _ _ _ _ _ _ _ _ _ he' h1 q).2))
  · rw [sR_ne _ _ hg, sR_ne _ _ hg] at he'
    exact (h g' p' e he').kept (oq _ (fun q => hg (hA _ _ _ _ _ _ _ _ _ _ he' h0 q).1))
/-! tables -/
def KN (D : va_G) (cy : Nat → ClassId) (U : State) : Prop :=
  va_K D vwCl (tysC cy) U ∧ (∀ q ∈ nestF, va_Nw (.fieldLinkNest q.1 q.2.1 q.2.2.1 q.2.2.2.1 q.2.2.2.2.1 q.2.2.2.2.2) U) ∧ ∀ q ∈ nestM, va_Nw (.methodLinkNest q.1 q.2.1 q.2.2.1 q.2.2.2) U
theorem KN.warm {D : va_G} {cy : Nat → ClassId} {s U : State} (hW : s.WarmedH U.vm) (h : KN D cy s) : KN D cy U :=
  ⟨va_K.moved hW.alike h.1, fun q hq => va_Nw.warmF hW (h.2.1 q hq), fun q hq => va_Nw.warmM hW (h.2.2 q hq)⟩
theorem KN.same {D : va_G} {cy : Nat → ClassId} {u U : State} (hv : u.vm = U.vm) (h : KN D cy u) : KN D cy U :=
  ⟨va_K.moved (by rw [hv]; exact Vm.Alike.refl _) h.1, fun q hq => va_Nw.same rfl hv (h.2.1 q hq), fun q hq => va_Nw.same rfl hv (h.2.2 q hq)⟩
theorem KN.f {D : va_G} {cy : Nat → ClassId} {s : State} (h : KN D cy s) (i : Nat) {a : String} {k : Nat} {b n d o : String} (hi : nestF[i]? = some (a, k, b, n, d, o)) {args : Array Value} : (Cond.fieldLinkNest a k b n d o).before args s = true :=
  va_Nw.use rfl (h.2.1 (a, k, b, n, d, o) (List.mem_of_getElem? hi))
theorem KN.m {D : va_G} {cy : Nat → ClassId} {s : State} (h : KN D cy s) (i : Nat) {a : String} {k : Nat} {y : MethodName} {o : String} (hi : nestM[i]? = some (a, k, y, o)) : va_Nw (.methodLinkNest a k y o) s :=
  h.2.2 (a, k, y, o) (List.mem_of_getElem? hi)
/-! what the cells of the two worlds hold -/
def layI (A : Nat → Nat → Nat) (cy : Nat → ClassId) (g : Nat) (σ : Nat → Int32) (p : Nat) : Option va_E := match p with
  | 0 => some (.inr (0, [.int (σ 2), .int (σ 6), .int (σ 0), .int (σ 1), .ref (A g 1), .ref (A g 2), .ref (A g 3), .ref (A g 4), .ref (A g 5)]))
  | 1 => some (.inl (cy 0, 3, .inl (fun i => σ (if i < 3 then 3 + i else 100 + i))))
  | 2 => some (.inl (cy 0, 8, .inl (fun i => σ (7 + 4 * i))))
  | 3 => some (.inl (cy 0, 8, .inl (fun i => σ (8 + 4 * i))))
  | 4 => some (.inl (cy 0, 8, .inl (fun i => σ (9 + 4 * i))))
  | 5 => some (.inl (cy 2, 8, .inl (fun i => σ (10 + 4 * i))))
  | _ => none
def layS (A : Nat → Nat → Nat) (cy : Nat → ClassId) (g : Nat) (σ : Nat → Int32) (ν : Nat → Int64) (p : Nat) : Option va_E := match p with
  | 0 => some (.inr (2, [.ref (A g 1), .int (σ 0), .int (σ 1)]))
  | 1 => some (.inl (cy 1, 40, .inr (.inl ν)))
  | _ => none
def layO (A : Nat → Nat → Nat) (cy : Nat → ClassId) (g : Nat) (σ : Nat → Int32) (p : Nat) : Option va_E := match g, p with
  | 4, 0 => some (.inr (1, [.ref (A 3 0), .int (σ 0), .int (σ 1), .int (σ 2)]))
  | 5, 0 => some (.inr (3, [.ref (A 5 1), .int (σ 0), .int (σ 1), .int (σ 2), .int (σ 3), .int (σ 4), .int (σ 5)]))
  | 5, 1 => some (.inl (cy 0, 120, .inl (fun i => σ (10 + i))))
  | 6, 0 => some (.inl (cy 3, 4, .inr (.inr (.inr (.inr (fun i => some (A (20 + i) 0)))))))
  | 7, 0 => some (.inl (cy 0, 7, .inl σ))
  | 8, 0 => some (.inr (4, [.ref (A 0 0), .ref (A 1 0), .ref (A 2 0), .ref (A 4 0), .ref (A 5 0), .ref (A 6 0), .ref (A 7 0), .int (σ 0)]))
  | _, _ => none
def layX (A : Nat → Nat → Nat) (cy : Nat → ClassId) (g : Nat) (σ : Nat → Int32) (ν : Nat → Int64) (p : Nat) : Option va_E :=
  if g < 4 then layI A cy g σ p else if 20 ≤ g ∧ g < 24 then layS A cy g σ ν p else layO A cy g σ p
def layM (B : Nat → Nat → Nat) (cy : Nat → ClassId) (g : Nat) (σ : Nat → Int32) (ν : Nat → Int64) (p : Nat) : Option va_E := match g, p with
  | 0, 0 => some (.inl (cy 0, 39, .inl σ))
  | 1, 0 => some (.inl (cy 0, 39, .inl σ))
  | 2, 0 => some (.inl (cy 0, 39, .inl σ))
  | 3, 0 => some (.inl (cy 0, 39, .inl σ))
  | 4, 0 => some (.inl (cy 0, 7, .inl σ))
  | 5, 0 => some (.inl (cy 0, 120, .inl σ))
  | 6, 0 => some (.inr (5, [.ref (B 0 0), .ref (B 1 0), .ref (B 2 0), .ref (B 3 0), .ref (B 4 0), .int (σ 0), .int (σ 1), .ref (B 5 0), .int (σ 2), .int (σ 3), .int (σ 4), .int (σ 5), .int (σ 6), .ref (B 7 0), .ref (B 8 0), .ref (B 9 0), .ref (B 10 0)]))
  | 7, 0 => some (.inl (cy 0, 4, .inl σ))
  | 8, 0 => some (.inl (cy 0, 4, .inl σ))
  | 9, 0 => some (.inl (cy 1, 160, .inr (.inl ν)))
  | 10, 0 => some (.inl (cy 1, 40, .inr (.inl ν)))
  | _, _ => none
/-- the class's row of kinds, and the words of its text -/
def kab (i : Nat) : Int32 := match i with
  | 0 => -1
  | 4 => 1
  | 5 => 2
  | _ => 0
def sTxt : List (Nat × String) := [(73, "young"), (75, "law"), (77, "old"), (79, "pamphlet"), (81, "canon"), (83, "tortoise"), (91, "at"), (43, "fence"), (53, "free"), (55, "rain"), (108, "to"), (60, "spring"), (65, "shade"), (67, "beach")]
def sLen : List Nat := [5, 3, 3, 8, 5, 8, 2, 5, 4, 4, 2, 6, 5, 5]
def sByt : List (List Int32) := [[121, 111, 117, 110, 103], [108, 97, 119], [111, 108, 100], [112, 97, 109, 112, 104, 108, 101, 116], [99, 97, 110, 111, 110], [116, 111, 114, 116, 111, 105, 115, 101], [97, 116], [102, 101, 110, 99, 101], [102, 114, 101, 101], [114, 97, 105, 110], [116, 111], [115, 112, 114, 105, 110, 103], [115, 104, 97, 100, 101], [98, 101, 97, 99, 104]]
def StaX (A : Nat → Nat → Nat) (I : Nat → Prop) (U : State) : Prop :=
  va_Z "TortoiseShelves" "KIND_ABOVE" "[I" (.ref (A 42 0)) I U U.heap ∧ va_T .int (A 42 0) 6 (fun i => .int (kab i)) I U U.heap ∧ vk_S 14 sLen sByt (A 40) (A 41) I U U.heap ∧ (∀ (k i : Nat) (tx : String), sTxt[k]? = some (i, tx) → vk_R "TortoiseShelves$Tape" i tx (A 40 k) U) ∧ va_Z "java/lang/String" "COMPACT_STRINGS" "Z" (.int 1) I U U.heap ∧ va_Zq "jdk/internal/util/Preconditions" "SIOOBE_FORMATTER" "Ljava/util/function/BiFunction;" I U U.heap
def Knd (k : Nat) (Z : Zt) : Prop := if k = 1 then zL Z = layX (zA Z) Z.2.1 ∧ ∀ U, zS Z U → StaX (zA Z) (InA Z) U else zL Z = layM (zA Z) Z.2.1
def StaOk (Z : Zt) : Prop := (∀ s U : State, s.WarmedH U.vm → Fr Z s.heap U.heap → zS Z s → zS Z U) ∧ ∀ u U : State, u.vm = U.vm → u.heap = U.heap → zS Z u → zS Z U
def Zok (k : Nat) (Z : Zt) : Prop := Apart Z ∧ StaOk Z ∧ Knd k Z
theorem Zok.X {Z : Zt} (h : Zok 1 Z) : zL Z = layX (zA Z) Z.2.1 := h.2.2.1
theorem Zok.S {Z : Zt} (h : Zok 1 Z) : ∀ U, zS Z U → StaX (zA Z) (InA Z) U := h.2.2.2
theorem Zok.M {Z : Zt} (h : Zok 2 Z) : zL Z = layM (zA Z) Z.2.1 := h.2.2
/-! the machine's things in one -/
abbrev Ec : Type := Program × Launch × Env × Room × State × MethodId × Array Value × List Frame × Method × Code
abbrev eL (E : Ec) : Launch := E.2.1
abbrev eS (E : Ec) : State := E.2.2.2.2.1
abbrev eM (E : Ec) : MethodId := E.2.2.2.2.2.1
abbrev Wc (E : Ec) (H : Heap) (locs : List Loc) (Q : State → Prop) (g : JFrame) : Prop := W E.1 E.2.1 E.2.2.1 E.2.2.2.1 E.2.2.2.2.1 E.2.2.2.2.2.1 E.2.2.2.2.2.2.1 E.2.2.2.2.2.2.2.1 E.2.2.2.2.2.2.2.2.1 E.2.2.2.2.2.2.2.2.2 H locs 0 0 Q g
abbrev rmH (h : Nat) : Room := { frames := h, cells := 0, slots := 0, locals := 30 * h }
def qo (Z : Zt) (r : Option Value × Mi × Ml) : Array Value → State → Outcome → State → Prop := fun _ st o t => o = .returned r.1 ∧ Rep Z r.2.1 r.2.2 t.heap ∧ Fr Z st.heap t.heap
def pcZ (k : Nat) (Z : Zt) (av : List Value) (M : Mi) (N : Ml) : Array Value → State → Prop := fun v U => v = av.toArray ∧ Rep Z M N U.heap ∧ KN Z.1 Z.2.1 U ∧ zS Z U ∧ Zok k Z
def Ct (k : Nat) (Z : Zt) (l : Launch) (y : MethodName) (cc : ByteArray) (maxL : Nat) (ret : Option FieldType) (h : Nat) (av : List Value) (M : Mi) (N : Ml) (r : Option Value × Mi × Ml) : Prop :=
  Met l y (Cond.code y cc maxL ret :: base) (rmH h) (pcZ k Z av M N) (qo Z r) 0 0 (InA Z)
def Ok (k : Nat) (Z : Zt) (E : Ec) (cc : ByteArray) (nL : Nat) (own : String) (ret : Option FieldType) (h : Nat) : Prop :=
  E.1.tables.exec = Jvm.exec ∧ E.2.2.2.2.2.2.2.2.2.code = cc ∧ E.2.2.2.2.2.2.2.2.2.maxLocals = nL ∧ (eS E).vm.findClass own = some (eM E).cls ∧ (∀ w ∈ base, w.before E.2.2.2.2.2.2.1 (eS E) = true) ∧ E.2.2.2.2.2.2.2.2.1.sig.returnType = ret ∧ E.2.2.2.2.2.2.2.2.1.locks = false ∧ E.2.2.2.1 = rmH h ∧ KN Z.1 Z.2.1 (eS E) ∧ zS Z (eS E) ∧ Zok k Z
def GT (Z : Zt) (E : Ec) (nL : Nat) {β : Type} (fin : β → Option Value × Mi × Ml) (pc : Nat) (lv : List (Nat × Value)) (st : List Value) (M : Mi) (N : Ml) (t : Option β) : Prop :=
  ∀ b : β, t = some b → ∀ (H : Heap) (locs : List Loc) (ls : Array Slot), Rep Z M N H → Fr Z (eS E).heap H → (∀ q ∈ locs, InA Z q.base) → lv_has ls nL lv →
    Wc E H locs (MQ E.2.2.2.2.2.2.2.1 (qo Z (fin b)) E.2.2.2.2.2.2.1 (eS E) 0 0 (InA Z)) (F0 (eM E) pc ls st)
section OKS
variable {k : Nat} {Z : Zt} {E : Ec} {cc : ByteArray} {nL : Nat} {own : String} {ret : Option FieldType} {h : Nat}
theorem Ok.x (C : Ok k Z E cc nL own ret h) : E.1.tables.exec = Jvm.exec := C.1
theorem Ok.b (C : Ok k Z E cc nL own ret h) : E.2.2.2.2.2.2.2.2.2.code = cc := C.2.1
theorem Ok.ml (C : Ok k Z E cc nL own ret h) : E.2.2.2.2.2.2.2.2.2.maxLocals = nL := C.2.2.1
theorem Ok.ow (C : Ok k Z E cc nL own ret h) : (eS E).vm.findClass own = some (eM E).cls := C.2.2.2.1
theorem Ok.ts (C : Ok k Z E cc nL own ret h) : ∀ w ∈ base, w.before E.2.2.2.2.2.2.1 (eS E) = true := C.2.2.2.2.1
theorem Ok.rt (C : Ok k Z E cc nL own ret h) : E.2.2.2.2.2.2.2.2.1.sig.returnType = ret := C.2.2.2.2.2.1
theorem Ok.lk (C : Ok k Z E cc nL own ret h) : E.2.2.2.2.2.2.2.2.1.locks = false := C.2.2.2.2.2.2.1
theorem Ok.rm (C : Ok k Z E cc nL own ret h) : E.2.2.2.1 = rmH h := C.2.2.2.2.2.2.2.1
theorem Ok.kn (C : Ok k Z E cc nL own ret h) : KN Z.1 Z.2.1 (eS E) := C.2.2.2.2.2.2.2.2.1
theorem Ok.sta (C : Ok k Z E cc nL own ret h) : zS Z (eS E) := C.2.2.2.2.2.2.2.2.2.1
theorem Ok.z (C : Ok k Z E cc nL own ret h) : Zok k Z := C.2.2.2.2.2.2.2.2.2.2
end OKS
theorem metG {k : Nat} {Z : Zt} {l : Launch} {y : MethodName} {cc : ByteArray} {maxL : Nat} {ret : Option FieldType} {h : Nat} {av : List Value} {M : Mi} {N : Ml} {β : Type} {fin : β → Option Value × Mi × Ml} {t : Option β} (hy : plainName y.cls = true) (hlen : (lg_sl av).length ≤ maxL)
    (body : ∀ E : Ec, eL E = l → Ok k Z E cc maxL y.cls ret h → GT Z E maxL fin 0 (lv_args 0 av) [] M N t) {b : β} (ht : t = some b) : Ct k Z l y cc maxL ret h av M N (fin b) := by
  refine Met.ofW (cc := cc) (maxL := maxL) (ret := ret) hy rfl ?_
  intro p e s m args below meth c s₁ B hml hv
  obtain ⟨rfl, hR, hK, hS, hZ⟩ := hv
  rw [lg_entry_eq]
  have hts := atoms_spec (ws := Cond.code y cc maxL ret :: base) B.pre
  exact body (p, l, e, rmH h, s, m, av.toArray, below, meth, c) rfl ⟨B.exec, B.bytes, hml, findClass_of_methodNamed B.named, fun w hw => hts w (List.mem_cons_of_mem _ hw), B.returns, B.notSynchronized, rfl, hK, hS, hZ⟩ b ht s.heap [] _ hR Fr.rf (fun _ h => by cases h) (lv_entry av hlen)
section ROWS
variable {wk : Nat} {Z : Zt} {E : Ec} {cc : ByteArray} {nL : Nat} {own : String} {ret : Option FieldType} {h : Nat} {β : Type} {fin : β → Option Value × Mi × Ml} {pc : Nat} {lv lv' : List (Nat × Value)} {st rest : List Value} {M M' : Mi} {N N' : Ml} {t t1 t2 : Option β}
theorem r_bind {α : Type} {o : Option α} {kk : α → Option β} (k : ∀ a, o = some a → GT Z E nL fin pc lv st M N (kk a)) : GT Z E nL fin pc lv st M N (o.bind kk) := by
  intro b hb
  cases o with
  | none => cases hb
  | some a => exact k a rfl b hb
theorem r_guard {P : Prop} [Decidable P] (k : P → GT Z E nL fin pc lv st M N t) : GT Z E nL fin pc lv st M N (if P then t else none) := by
  intro b hb
  by_cases hp : P
  · rw [if_pos hp] at hb; exact k hp b hb
  · rw [if_neg hp] at hb; cases hb
theorem r_ite {P : Prop} [Decidable P] (k1 : P → GT Z E nL fin pc lv st M N t1) (k2 : ¬ P → GT Z E nL fin pc lv st M N t2) : GT Z E nL fin pc lv st M N (if P then t1 else t2) := by
  by_cases hp : P
  · rw [if_pos hp]; exact k1 hp
  · rw [if_neg hp]; exact k2 hp
theorem r_none : GT Z E nL fin pc lv st M N none := fun _ h => by cases h
theorem r_st {P : Prop} [Decidable P] {a b : β} (k : GT Z E nL fin pc lv st M N (if P then some a else some b)) : GT Z E nL fin pc lv st M N (some (if P then a else b)) := by
  by_cases hp : P
  · rw [if_pos hp] at k ⊢; exact k
  · rw [if_neg hp] at k ⊢; exact k
theorem r_lv (ks : List Nat) (hl : lv_pick lv ks = lv') (k : GT Z E nL fin pc lv' st M N t) : GT Z E nL fin pc lv st M N t :=
  fun b hb H locs ls h1 h2 h3 h4 => k b hb H locs ls h1 h2 h3 (lv_sub h4 ks hl)
theorem r_iret {b : β} {v : Int32} (C : Ok wk Z E cc nL own (some .int) h) (hd : decode cc pc = .ok (.ireturn, 1)) (hf : fin b = (some (.int v), M, N)) : GT Z E nL fin pc lv [.int v] M N (some b) := by
  intro b' hb' H locs ls h1 h2 h3 h4
  cases hb'
  exact W.iret C.x C.b C.rt (fun t ht _ => ⟨by rw [hf], by rw [hf, ht]; exact h1, by rw [ht]; exact h2⟩) h3 hd C.lk
theorem r_lret {b : β} {v : Int64} (C : Ok wk Z E cc nL own (some .long) h) (hd : decode cc pc = .ok (.lreturn, 1)) (hf : fin b = (some (.long v), M, N)) : GT Z E nL fin pc lv [.long v] M N (some b) := by
  intro b' hb' H locs ls h1 h2 h3 h4
  cases hb'
  exact W.lret C.x C.b C.rt (fun t ht _ => ⟨by rw [hf], by rw [hf, ht]; exact h1, by rw [ht]; exact h2⟩) h3 hd C.lk
theorem r_vret {b : β} (C : Ok wk Z E cc nL own none h) (hd : decode cc pc = .ok (.return_, 1)) (hf : fin b = (none, M, N)) : GT Z E nL fin pc lv [] M N (some b) := by
  intro b' hb' H locs ls h1 h2 h3 h4
  cases hb'
  exact W.vret C.x C.b C.rt (fun t ht _ => ⟨by rw [hf], by rw [hf, ht]; exact h1, by rw [ht]; exact h2⟩) h3 hd C.lk
theorem r_aret {b : β} {a : Nat} {cn : String} (C : Ok wk Z E cc nL own (some (.object cn)) h) (hd : decode cc pc = .ok (.areturn, 1)) (hf : fin b = (some (.ref a), M, N)) : GT Z E nL fin pc lv [.ref a] M N (some b) := by
  intro b' hb' H locs ls h1 h2 h3 h4
  cases hb'
  exact W.aret C.x C.b C.rt (Or.inl ⟨_, rfl⟩) (Or.inr ⟨_, rfl⟩) (fun t ht _ => ⟨by rw [hf], by rw [hf, ht]; exact h1, by rw [ht]; exact h2⟩) h3 hd C.lk
/-- what a boolean method answers of an int -/
def zn (v : Int32) : Int32 := v &&& 1
theorem zn_zn (v : Int32) : zn v &&& 1 = zn v := by unfold zn; rw [Int32.and_assoc]; rfl
end ROWS

section ROWS2
variable {wk : Nat} {Z : Zt} {E : Ec} {cc : ByteArray} {nL : Nat} {own : String} {ret : Option FieldType} {h : Nat} {β : Type} {fin : β → Option Value × Mi × Ml} {pc : Nat} {lv lv' : List (Nat × Value)} {st rest : List Value} {M M' : Mi} {N N' : Ml} {t t1 t2 : Option β}
theorem r_iconst {n : Int} {v : Int32} (C : Ok wk Z E cc nL own ret h) (hd : decode cc pc = .ok (.iconst n, 1)) (hv : Int32.ofInt n = v) (k : GT Z E nL fin (pc + 1) lv (.int v :: rest) M N t) : GT Z E nL fin pc lv (rest) M N t :=
  fun b hb H locs ls h1 h2 h3 h4 => lv_iconst C.x C.b hd hv (k b hb H locs ls h1 h2 h3 h4)
theorem r_bipush {n : Int} {v : Int32} (C : Ok wk Z E cc nL own ret h) (hd : decode cc pc = .ok (.bipush n, 2)) (hv : (Int8.ofInt n).toInt32 = v) (k : GT Z E nL fin (pc + 2) lv (.int v :: rest) M N t) : GT Z E nL fin pc lv (rest) M N t :=
  fun b hb H locs ls h1 h2 h3 h4 => lv_bipush C.x C.b hd hv (k b hb H locs ls h1 h2 h3 h4)
theorem r_sipush {n : Int} {v : Int32} (C : Ok wk Z E cc nL own ret h) (hd : decode cc pc = .ok (.sipush n, 3)) (hv : (Int16.ofInt n).toInt32 = v) (k : GT Z E nL fin (pc + 3) lv (.int v :: rest) M N t) : GT Z E nL fin pc lv (rest) M N t :=
  fun b hb H locs ls h1 h2 h3 h4 => lv_sipush C.x C.b hd hv (k b hb H locs ls h1 h2 h3 h4)
theorem r_lconst {n : Fin 2} {v : Int64} (C : Ok wk Z E cc nL own ret h) (hd : decode cc pc = .ok (.lconst n, 1)) (hv : Int64.ofNat (n : Nat) = v) (k : GT Z E nL fin (pc + 1) lv (.long v :: rest) M N t) : GT Z E nL fin pc lv (rest) M N t :=
  fun b hb H locs ls h1 h2 h3 h4 => lv_lconst C.x C.b hd hv (k b hb H locs ls h1 h2 h3 h4)
theorem r_iload_n {q : Fin 4} {x : Int32} (C : Ok wk Z E cc nL own ret h) (hd : decode cc pc = .ok (.iload_n q, 1)) (i j : Nat) (hi : (q : Nat) = i) (hl : lv[j]? = some (i, .int x)) (k : GT Z E nL fin (pc + 1) lv (.int x :: rest) M N t) : GT Z E nL fin pc lv (rest) M N t :=
  fun b hb H locs ls h1 h2 h3 h4 => lv_iload_n C.x C.b hd hi (lv_at h4 j hl) (k b hb H locs ls h1 h2 h3 h4)
theorem r_iload {i : Nat} {x : Int32} (C : Ok wk Z E cc nL own ret h) (hd : decode cc pc = .ok (.iload i, 2)) (j : Nat) (hl : lv[j]? = some (i, .int x)) (k : GT Z E nL fin (pc + 2) lv (.int x :: rest) M N t) : GT Z E nL fin pc lv (rest) M N t :=
  fun b hb H locs ls h1 h2 h3 h4 => lv_iload C.x C.b hd (lv_at h4 j hl) (k b hb H locs ls h1 h2 h3 h4)
theorem r_lload_n {q : Fin 4} {x : Int64} (C : Ok wk Z E cc nL own ret h) (hd : decode cc pc = .ok (.lload_n q, 1)) (i j : Nat) (hi : (q : Nat) = i) (hl : lv[j]? = some (i, .long x)) (k : GT Z E nL fin (pc + 1) lv (.long x :: rest) M N t) : GT Z E nL fin pc lv (rest) M N t :=
  fun b hb H locs ls h1 h2 h3 h4 => lv_lload_n C.x C.b hd hi (lv_at h4 j hl) (k b hb H locs ls h1 h2 h3 h4)
theorem r_lload {i : Nat} {x : Int64} (C : Ok wk Z E cc nL own ret h) (hd : decode cc pc = .ok (.lload i, 2)) (j : Nat) (hl : lv[j]? = some (i, .long x)) (k : GT Z E nL fin (pc + 2) lv (.long x :: rest) M N t) : GT Z E nL fin pc lv (rest) M N t :=
  fun b hb H locs ls h1 h2 h3 h4 => lv_lload C.x C.b hd (lv_at h4 j hl) (k b hb H locs ls h1 h2 h3 h4)
theorem r_aload_n {q : Fin 4} {x : Nat} (C : Ok wk Z E cc nL own ret h) (hd : decode cc pc = .ok (.aload_n q, 1)) (i j : Nat) (hi : (q : Nat) = i) (hl : lv[j]? = some (i, .ref x)) (k : GT Z E nL fin (pc + 1) lv (.ref x :: rest) M N t) : GT Z E nL fin pc lv (rest) M N t :=
  fun b hb H locs ls h1 h2 h3 h4 => lv_aload_n C.x C.b hd hi (lv_at h4 j hl) (k b hb H locs ls h1 h2 h3 h4)
theorem r_aload {i : Nat} {x : Nat} (C : Ok wk Z E cc nL own ret h) (hd : decode cc pc = .ok (.aload i, 2)) (j : Nat) (hl : lv[j]? = some (i, .ref x)) (k : GT Z E nL fin (pc + 2) lv (.ref x :: rest) M N t) : GT Z E nL fin pc lv (rest) M N t :=
  fun b hb H locs ls h1 h2 h3 h4 => lv_aload C.x C.b hd (lv_at h4 j hl) (k b hb H locs ls h1 h2 h3 h4)
theorem r_istore_n {q : Fin 4} {x : Int32} (C : Ok wk Z E cc nL own ret h) (hd : decode cc pc = .ok (.istore_n q, 1)) (i : Nat) (hi : (q : Nat) = i) (hn : i < nL) (hl : (i, Value.int x) :: lv.filter (fun q => !(q.1 == i) && !(q.1 + 1 == i && q.2.category == 2)) = lv') (k : GT Z E nL fin (pc + 1) lv' (rest) M N t) : GT Z E nL fin pc lv (.int x :: rest) M N t :=
  fun b hb H locs ls h1 h2 h3 h4 => lv_istore_n C.x C.b hd hi h4 hn hl (fun ls2 h5 => k b hb H locs ls2 h1 h2 h3 h5)
theorem r_istore {i : Nat} {x : Int32} (C : Ok wk Z E cc nL own ret h) (hd : decode cc pc = .ok (.istore i, 2)) (hn : i < nL) (hl : (i, Value.int x) :: lv.filter (fun q => !(q.1 == i) && !(q.1 + 1 == i && q.2.category == 2)) = lv') (k : GT Z E nL fin (pc + 2) lv' (rest) M N t) : GT Z E nL fin pc lv (.int x :: rest) M N t :=
  fun b hb H locs ls h1 h2 h3 h4 => lv_istore C.x C.b hd h4 hn hl (fun ls2 h5 => k b hb H locs ls2 h1 h2 h3 h5)
theorem r_lstore_n {q : Fin 4} {x : Int64} (C : Ok wk Z E cc nL own ret h) (hd : decode cc pc = .ok (.lstore_n q, 1)) (i : Nat) (hi : (q : Nat) = i) (hn : i + 1 < nL) (hl : (i, Value.long x) :: lv.filter (fun q => !(q.1 == i) && (!(q.1 == i + 1) && !(q.1 + 1 == i && q.2.category == 2))) = lv') (k : GT Z E nL fin (pc + 1) lv' (rest) M N t) : GT Z E nL fin pc lv (.long x :: rest) M N t :=
  fun b hb H locs ls h1 h2 h3 h4 => lv_lstore_n C.x C.b hd hi h4 hn hl (fun ls2 h5 => k b hb H locs ls2 h1 h2 h3 h5)
theorem r_lstore {i : Nat} {x : Int64} (C : Ok wk Z E cc nL own ret h) (hd : decode cc pc = .ok (.lstore i, 2)) (hn : i + 1 < nL) (hl : (i, Value.long x) :: lv.filter (fun q => !(q.1 == i) && (!(q.1 == i + 1) && !(q.1 + 1 == i && q.2.category == 2))) = lv') (k : GT Z E nL fin (pc + 2) lv' (rest) M N t) : GT Z E nL fin pc lv (.long x :: rest) M N t :=
  fun b hb H locs ls h1 h2 h3 h4 => lv_lstore C.x C.b hd h4 hn hl (fun ls2 h5 => k b hb H locs ls2 h1 h2 h3 h5)
theorem r_astore_n {q : Fin 4} {x : Nat} (C : Ok wk Z E cc nL own ret h) (hd : decode cc pc = .ok (.astore_n q, 1)) (i : Nat) (hi : (q : Nat) = i) (hn : i < nL) (hl : (i, Value.ref x) :: lv.filter (fun q => !(q.1 == i) && !(q.1 + 1 == i && q.2.category == 2)) = lv') (k : GT Z E nL fin (pc + 1) lv' (rest) M N t) : GT Z E nL fin pc lv (.ref x :: rest) M N t :=
  fun b hb H locs ls h1 h2 h3 h4 => lv_astore_n C.x C.b hd hi h4 hn hl (fun ls2 h5 => k b hb H locs ls2 h1 h2 h3 h5)
theorem r_astore {i : Nat} {x : Nat} (C : Ok wk Z E cc nL own ret h) (hd : decode cc pc = .ok (.astore i, 2)) (hn : i < nL) (hl : (i, Value.ref x) :: lv.filter (fun q => !(q.1 == i) && !(q.1 + 1 == i && q.2.category == 2)) = lv') (k : GT Z E nL fin (pc + 2) lv' (rest) M N t) : GT Z E nL fin pc lv (.ref x :: rest) M N t :=
  fun b hb H locs ls h1 h2 h3 h4 => lv_astore C.x C.b hd h4 hn hl (fun ls2 h5 => k b hb H locs ls2 h1 h2 h3 h5)
theorem r_iinc {i : Nat} {n : Int} {x v : Int32} (C : Ok wk Z E cc nL own ret h) (hd : decode cc pc = .ok (.iinc i n, 3)) (j : Nat) (hj : lv[j]? = some (i, .int x)) (hv : x + Int32.ofInt n = v) (hn : i < nL) (hl : (i, Value.int v) :: lv.filter (fun q => !(q.1 == i) && !(q.1 + 1 == i && q.2.category == 2)) = lv') (k : GT Z E nL fin (pc + 3) lv' (rest) M N t) : GT Z E nL fin pc lv (rest) M N t :=
  fun b hb H locs ls h1 h2 h3 h4 => lv_iinc C.x C.b hd h4 hj hv hn hl (fun ls2 h5 => k b hb H locs ls2 h1 h2 h3 h5)
theorem r_iadd {x y : Int32} (C : Ok wk Z E cc nL own ret h) (hd : decode cc pc = .ok (.iadd, 1))  (k : GT Z E nL fin (pc + 1) lv (.int (x + y) :: rest) M N t) : GT Z E nL fin pc lv (.int y :: .int x :: rest) M N t :=
  fun b hb H locs ls h1 h2 h3 h4 => lv_iadd C.x C.b hd (k b hb H locs ls h1 h2 h3 h4)
theorem r_isub {x y : Int32} (C : Ok wk Z E cc nL own ret h) (hd : decode cc pc = .ok (.isub, 1))  (k : GT Z E nL fin (pc + 1) lv (.int (x - y) :: rest) M N t) : GT Z E nL fin pc lv (.int y :: .int x :: rest) M N t :=
  fun b hb H locs ls h1 h2 h3 h4 => lv_isub C.x C.b hd (k b hb H locs ls h1 h2 h3 h4)
theorem r_imul {x y : Int32} (C : Ok wk Z E cc nL own ret h) (hd : decode cc pc = .ok (.imul, 1))  (k : GT Z E nL fin (pc + 1) lv (.int (x * y) :: rest) M N t) : GT Z E nL fin pc lv (.int y :: .int x :: rest) M N t :=
  fun b hb H locs ls h1 h2 h3 h4 => lv_imul C.x C.b hd (k b hb H locs ls h1 h2 h3 h4)
theorem r_iand {x y : Int32} (C : Ok wk Z E cc nL own ret h) (hd : decode cc pc = .ok (.iand, 1))  (k : GT Z E nL fin (pc + 1) lv (.int (x &&& y) :: rest) M N t) : GT Z E nL fin pc lv (.int y :: .int x :: rest) M N t :=
  fun b hb H locs ls h1 h2 h3 h4 => lv_iand C.x C.b hd (k b hb H locs ls h1 h2 h3 h4)
theorem r_ior {x y : Int32} (C : Ok wk Z E cc nL own ret h) (hd : decode cc pc = .ok (.ior, 1))  (k : GT Z E nL fin (pc + 1) lv (.int (x ||| y) :: rest) M N t) : GT Z E nL fin pc lv (.int y :: .int x :: rest) M N t :=
  fun b hb H locs ls h1 h2 h3 h4 => lv_ior C.x C.b hd (k b hb H locs ls h1 h2 h3 h4)
theorem r_ixor {x y : Int32} (C : Ok wk Z E cc nL own ret h) (hd : decode cc pc = .ok (.ixor, 1))  (k : GT Z E nL fin (pc + 1) lv (.int (x ^^^ y) :: rest) M N t) : GT Z E nL fin pc lv (.int y :: .int x :: rest) M N t :=
  fun b hb H locs ls h1 h2 h3 h4 => lv_ixor C.x C.b hd (k b hb H locs ls h1 h2 h3 h4)
theorem r_ishl {x y : Int32} (C : Ok wk Z E cc nL own ret h) (hd : decode cc pc = .ok (.ishl, 1))  (k : GT Z E nL fin (pc + 1) lv (.int (x <<< (y &&& 31)) :: rest) M N t) : GT Z E nL fin pc lv (.int y :: .int x :: rest) M N t :=
  fun b hb H locs ls h1 h2 h3 h4 => lv_ishl C.x C.b hd (k b hb H locs ls h1 h2 h3 h4)
theorem r_ishr {x y : Int32} (C : Ok wk Z E cc nL own ret h) (hd : decode cc pc = .ok (.ishr, 1))  (k : GT Z E nL fin (pc + 1) lv (.int (x >>> (y &&& 31)) :: rest) M N t) : GT Z E nL fin pc lv (.int y :: .int x :: rest) M N t :=
  fun b hb H locs ls h1 h2 h3 h4 => lv_ishr C.x C.b hd (k b hb H locs ls h1 h2 h3 h4)
theorem r_idiv {x y : Int32} (C : Ok wk Z E cc nL own ret h) (hd : decode cc pc = .ok (.idiv, 1)) (hne : ¬ y = 0) (k : GT Z E nL fin (pc + 1) lv (.int (x / y) :: rest) M N t) : GT Z E nL fin pc lv (.int y :: .int x :: rest) M N t :=
  fun b hb H locs ls h1 h2 h3 h4 => lv_idiv C.x C.b hd hne (k b hb H locs ls h1 h2 h3 h4)
theorem r_irem {x y : Int32} (C : Ok wk Z E cc nL own ret h) (hd : decode cc pc = .ok (.irem, 1)) (hne : ¬ y = 0) (k : GT Z E nL fin (pc + 1) lv (.int (x - x / y * y) :: rest) M N t) : GT Z E nL fin pc lv (.int y :: .int x :: rest) M N t :=
  fun b hb H locs ls h1 h2 h3 h4 => lv_irem C.x C.b hd hne (k b hb H locs ls h1 h2 h3 h4)
theorem r_iushr {x y v : Int32} (C : Ok wk Z E cc nL own ret h) (hd : decode cc pc = .ok (.iushr, 1)) (hv : (x.toUInt32 >>> (y.toUInt32 &&& Int32.toUInt32 31)).toInt32 = v) (k : GT Z E nL fin (pc + 1) lv (.int v :: rest) M N t) : GT Z E nL fin pc lv (.int y :: .int x :: rest) M N t :=
  fun b hb H locs ls h1 h2 h3 h4 => lv_iushr C.x C.b hd hv (k b hb H locs ls h1 h2 h3 h4)
theorem r_ineg {x : Int32} (C : Ok wk Z E cc nL own ret h) (hd : decode cc pc = .ok (.ineg, 1))  (k : GT Z E nL fin (pc + 1) lv (.int (-x) :: rest) M N t) : GT Z E nL fin pc lv (.int x :: rest) M N t :=
  fun b hb H locs ls h1 h2 h3 h4 => lv_ineg C.x C.b hd (k b hb H locs ls h1 h2 h3 h4)
theorem r_ladd {x y : Int64} (C : Ok wk Z E cc nL own ret h) (hd : decode cc pc = .ok (.ladd, 1))  (k : GT Z E nL fin (pc + 1) lv (.long (x + y) :: rest) M N t) : GT Z E nL fin pc lv (.long y :: .long x :: rest) M N t :=
  fun b hb H locs ls h1 h2 h3 h4 => lv_ladd C.x C.b hd (k b hb H locs ls h1 h2 h3 h4)
theorem r_lmul {x y : Int64} (C : Ok wk Z E cc nL own ret h) (hd : decode cc pc = .ok (.lmul, 1))  (k : GT Z E nL fin (pc + 1) lv (.long (x * y) :: rest) M N t) : GT Z E nL fin pc lv (.long y :: .long x :: rest) M N t :=
  fun b hb H locs ls h1 h2 h3 h4 => lv_lmul C.x C.b hd (k b hb H locs ls h1 h2 h3 h4)
theorem r_i2l {x : Int32} (C : Ok wk Z E cc nL own ret h) (hd : decode cc pc = .ok (.i2l, 1))  (k : GT Z E nL fin (pc + 1) lv (.long x.toInt64 :: rest) M N t) : GT Z E nL fin pc lv (.int x :: rest) M N t :=
  fun b hb H locs ls h1 h2 h3 h4 => lv_i2l C.x C.b hd rfl (k b hb H locs ls h1 h2 h3 h4)
theorem r_l2i {x : Int64} (C : Ok wk Z E cc nL own ret h) (hd : decode cc pc = .ok (.l2i, 1))  (k : GT Z E nL fin (pc + 1) lv (.int x.toInt32 :: rest) M N t) : GT Z E nL fin pc lv (.long x :: rest) M N t :=
  fun b hb H locs ls h1 h2 h3 h4 => lv_l2i C.x C.b hd rfl (k b hb H locs ls h1 h2 h3 h4)
theorem r_i2b {x : Int32} (C : Ok wk Z E cc nL own ret h) (hd : decode cc pc = .ok (.i2b, 1))  (k : GT Z E nL fin (pc + 1) lv (.int x.toInt8.toInt32 :: rest) M N t) : GT Z E nL fin pc lv (.int x :: rest) M N t :=
  fun b hb H locs ls h1 h2 h3 h4 => lv_i2b C.x C.b hd rfl (k b hb H locs ls h1 h2 h3 h4)
theorem r_i2s {x : Int32} (C : Ok wk Z E cc nL own ret h) (hd : decode cc pc = .ok (.i2s, 1))  (k : GT Z E nL fin (pc + 1) lv (.int x.toInt16.toInt32 :: rest) M N t) : GT Z E nL fin pc lv (.int x :: rest) M N t :=
  fun b hb H locs ls h1 h2 h3 h4 => lv_i2s C.x C.b hd rfl (k b hb H locs ls h1 h2 h3 h4)
theorem r_dup {v : Value} (C : Ok wk Z E cc nL own ret h) (hd : decode cc pc = .ok (.dup, 1)) (hc : v.category = 1) (k : GT Z E nL fin (pc + 1) lv (v :: v :: rest) M N t) : GT Z E nL fin pc lv (v :: rest) M N t :=
  fun b hb H locs ls h1 h2 h3 h4 => lv_dup C.x C.b hd hc (k b hb H locs ls h1 h2 h3 h4)
theorem r_pop {v : Value} (C : Ok wk Z E cc nL own ret h) (hd : decode cc pc = .ok (.pop, 1)) (hc : v.category = 1) (k : GT Z E nL fin (pc + 1) lv (rest) M N t) : GT Z E nL fin pc lv (v :: rest) M N t :=
  fun b hb H locs ls h1 h2 h3 h4 => lv_pop C.x C.b hd hc (k b hb H locs ls h1 h2 h3 h4)
theorem r_dup2 {v w : Value} (C : Ok wk Z E cc nL own ret h) (hd : decode cc pc = .ok (.dup2, 1)) (hc : v.category = 1) (hc2 : w.category = 1) (k : GT Z E nL fin (pc + 1) lv (v :: w :: v :: w :: rest) M N t) : GT Z E nL fin pc lv (v :: w :: rest) M N t :=
  fun b hb H locs ls h1 h2 h3 h4 => lv_dup2_11 C.x C.b hd hc hc2 (k b hb H locs ls h1 h2 h3 h4)
theorem r_ldc {i : Nat} {v : Int32} (C : Ok wk Z E cc nL own ret h) (hd : decode cc pc = .ok (.ldc i, 2)) (hw : Cond.constant own i v ∈ base) (k : GT Z E nL fin (pc + 2) lv (.int v :: rest) M N t) : GT Z E nL fin pc lv (rest) M N t :=
  fun b hb H locs ls h1 h2 h3 h4 => lv_ldc C.x C.b C.ow (C.ts _ hw) hd (k b hb H locs ls h1 h2 h3 h4)
theorem r_ldcw {i : Nat} {v : Int32} (C : Ok wk Z E cc nL own ret h) (hd : decode cc pc = .ok (.ldc_w i, 3)) (hw : Cond.constant own i v ∈ base) (k : GT Z E nL fin (pc + 3) lv (.int v :: rest) M N t) : GT Z E nL fin pc lv (rest) M N t :=
  fun b hb H locs ls h1 h2 h3 h4 => lv_ldcw C.x C.b C.ow (C.ts _ hw) hd (k b hb H locs ls h1 h2 h3 h4)
theorem r_ldc2 {i : Nat} {v : Int64} (C : Ok wk Z E cc nL own ret h) (hd : decode cc pc = .ok (.ldc2_w i, 3)) (hw : Cond.constantLong own i v ∈ base) (k : GT Z E nL fin (pc + 3) lv (.long v :: rest) M N t) : GT Z E nL fin pc lv (rest) M N t :=
  fun b hb H locs ls h1 h2 h3 h4 => lv_ldc2 C.x C.b C.ow (C.ts _ hw) hd (k b hb H locs ls h1 h2 h3 h4)
theorem r_goto {off : Int} {tgt : Nat} (C : Ok wk Z E cc nL own ret h) (hd : decode cc pc = .ok (.goto off, 3)) (ht : (pc : Int) + off = (tgt : Int)) (k : GT Z E nL fin tgt lv (st) M N t) : GT Z E nL fin pc lv (st) M N t :=
  fun b hb H locs ls h1 h2 h3 h4 => lv_goto C.x C.b hd ht (k b hb H locs ls h1 h2 h3 h4)
theorem r_if_eq {x : Int32} {off : Int} {tgt : Nat} (C : Ok wk Z E cc nL own ret h) (hd : decode cc pc = .ok (.ifCond .eq off, 3)) (ht : (pc : Int) + off = (tgt : Int)) (kt : x = 0 → GT Z E nL fin tgt lv (rest) M N t1) (kf : ¬ x = 0 → GT Z E nL fin (pc + 3) lv (rest) M N t2) : GT Z E nL fin pc lv (.int x :: rest) M N (if x = 0 then t1 else t2) := by
  intro b hb H locs ls h1 h2 h3 h4
  by_cases hc : x = 0
  · rw [if_pos hc] at hb; exact lv_if_eq C.x C.b hd ht (fun _ => kt hc b hb H locs ls h1 h2 h3 h4) (fun z => absurd hc z)
  · rw [if_neg hc] at hb; exact lv_if_eq C.x C.b hd ht (fun z => absurd z hc) (fun _ => kf hc b hb H locs ls h1 h2 h3 h4)
theorem r_ic_eq {x y : Int32} {off : Int} {tgt : Nat} (C : Ok wk Z E cc nL own ret h) (hd : decode cc pc = .ok (.if_icmp .eq off, 3)) (ht : (pc : Int) + off = (tgt : Int)) (kt : x = y → GT Z E nL fin tgt lv (rest) M N t1) (kf : ¬ x = y → GT Z E nL fin (pc + 3) lv (rest) M N t2) : GT Z E nL fin pc lv (.int y :: .int x :: rest) M N (if x = y then t1 else t2) := by
  intro b hb H locs ls h1 h2 h3 h4
  by_cases hc : x = y
  · rw [if_pos hc] at hb; exact lv_icmp_eq C.x C.b hd ht (fun _ => kt hc b hb H locs ls h1 h2 h3 h4) (fun z => absurd hc z)
  · rw [if_neg hc] at hb; exact lv_icmp_eq C.x C.b hd ht (fun z => absurd z hc) (fun _ => kf hc b hb H locs ls h1 h2 h3 h4)
theorem r_if_ne {x : Int32} {off : Int} {tgt : Nat} (C : Ok wk Z E cc nL own ret h) (hd : decode cc pc = .ok (.ifCond .ne off, 3)) (ht : (pc : Int) + off = (tgt : Int)) (kt : ¬ x = 0 → GT Z E nL fin tgt lv (rest) M N t2) (kf : x = 0 → GT Z E nL fin (pc + 3) lv (rest) M N t1) : GT Z E nL fin pc lv (.int x :: rest) M N (if x = 0 then t1 else t2) := by
  intro b hb H locs ls h1 h2 h3 h4
  by_cases hc : x = 0
  · rw [if_pos hc] at hb; exact lv_if_ne C.x C.b hd ht (fun z => absurd hc z) (fun _ => kf hc b hb H locs ls h1 h2 h3 h4)
  · rw [if_neg hc] at hb; exact lv_if_ne C.x C.b hd ht (fun _ => kt hc b hb H locs ls h1 h2 h3 h4) (fun z => absurd z hc)
theorem r_ic_ne {x y : Int32} {off : Int} {tgt : Nat} (C : Ok wk Z E cc nL own ret h) (hd : decode cc pc = .ok (.if_icmp .ne off, 3)) (ht : (pc : Int) + off = (tgt : Int)) (kt : ¬ x = y → GT Z E nL fin tgt lv (rest) M N t2) (kf : x = y → GT Z E nL fin (pc + 3) lv (rest) M N t1) : GT Z E nL fin pc lv (.int y :: .int x :: rest) M N (if x = y then t1 else t2) := by
  intro b hb H locs ls h1 h2 h3 h4
  by_cases hc : x = y
  · rw [if_pos hc] at hb; exact lv_icmp_ne C.x C.b hd ht (fun z => absurd hc z) (fun _ => kf hc b hb H locs ls h1 h2 h3 h4)
  · rw [if_neg hc] at hb; exact lv_icmp_ne C.x C.b hd ht (fun _ => kt hc b hb H locs ls h1 h2 h3 h4) (fun z => absurd z hc)
theorem r_if_lt {x : Int32} {off : Int} {tgt : Nat} (C : Ok wk Z E cc nL own ret h) (hd : decode cc pc = .ok (.ifCond .lt off, 3)) (ht : (pc : Int) + off = (tgt : Int)) (kt : x < 0 → GT Z E nL fin tgt lv (rest) M N t1) (kf : ¬ x < 0 → GT Z E nL fin (pc + 3) lv (rest) M N t2) : GT Z E nL fin pc lv (.int x :: rest) M N (if x < 0 then t1 else t2) := by
  intro b hb H locs ls h1 h2 h3 h4
  by_cases hc : x < 0
  · rw [if_pos hc] at hb; exact lv_if_lt C.x C.b hd ht (fun _ => kt hc b hb H locs ls h1 h2 h3 h4) (fun z => absurd hc z)
  · rw [if_neg hc] at hb; exact lv_if_lt C.x C.b hd ht (fun z => absurd z hc) (fun _ => kf hc b hb H locs ls h1 h2 h3 h4)
theorem r_ic_lt {x y : Int32} {off : Int} {tgt : Nat} (C : Ok wk Z E cc nL own ret h) (hd : decode cc pc = .ok (.if_icmp .lt off, 3)) (ht : (pc : Int) + off = (tgt : Int)) (kt : x < y → GT Z E nL fin tgt lv (rest) M N t1) (kf : ¬ x < y → GT Z E nL fin (pc + 3) lv (rest) M N t2) : GT Z E nL fin pc lv (.int y :: .int x :: rest) M N (if x < y then t1 else t2) := by
  intro b hb H locs ls h1 h2 h3 h4
  by_cases hc : x < y
  · rw [if_pos hc] at hb; exact lv_icmp_lt C.x C.b hd ht (fun _ => kt hc b hb H locs ls h1 h2 h3 h4) (fun z => absurd hc z)
  · rw [if_neg hc] at hb; exact lv_icmp_lt C.x C.b hd ht (fun z => absurd z hc) (fun _ => kf hc b hb H locs ls h1 h2 h3 h4)
theorem r_if_ge {x : Int32} {off : Int} {tgt : Nat} (C : Ok wk Z E cc nL own ret h) (hd : decode cc pc = .ok (.ifCond .ge off, 3)) (ht : (pc : Int) + off = (tgt : Int)) (kt : 0 ≤ x → GT Z E nL fin tgt lv (rest) M N t1) (kf : ¬ 0 ≤ x → GT Z E nL fin (pc + 3) lv (rest) M N t2) : GT Z E nL fin pc lv (.int x :: rest) M N (if 0 ≤ x then t1 else t2) := by
  intro b hb H locs ls h1 h2 h3 h4
  by_cases hc : 0 ≤ x
  · rw [if_pos hc] at hb; exact lv_if_ge C.x C.b hd ht (fun _ => kt hc b hb H locs ls h1 h2 h3 h4) (fun z => absurd hc z)
  · rw [if_neg hc] at hb; exact lv_if_ge C.x C.b hd ht (fun z => absurd z hc) (fun _ => kf hc b hb H locs ls h1 h2 h3 h4)
theorem r_ic_ge {x y : Int32} {off : Int} {tgt : Nat} (C : Ok wk Z E cc nL own ret h) (hd : decode cc pc = .ok (.if_icmp .ge off, 3)) (ht : (pc : Int) + off = (tgt : Int)) (kt : y ≤ x → GT Z E nL fin tgt lv (rest) M N t1) (kf : ¬ y ≤ x → GT Z E nL fin (pc + 3) lv (rest) M N t2) : GT Z E nL fin pc lv (.int y :: .int x :: rest) M N (if y ≤ x then t1 else t2) := by
  intro b hb H locs ls h1 h2 h3 h4
  by_cases hc : y ≤ x
  · rw [if_pos hc] at hb; exact lv_icmp_ge C.x C.b hd ht (fun _ => kt hc b hb H locs ls h1 h2 h3 h4) (fun z => absurd hc z)
  · rw [if_neg hc] at hb; exact lv_icmp_ge C.x C.b hd ht (fun z => absurd z hc) (fun _ => kf hc b hb H locs ls h1 h2 h3 h4)
theorem r_if_gt {x : Int32} {off : Int} {tgt : Nat} (C : Ok wk Z E cc nL own ret h) (hd : decode cc pc = .ok (.ifCond .gt off, 3)) (ht : (pc : Int) + off = (tgt : Int)) (kt : 0 < x → GT Z E nL fin tgt lv (rest) M N t1) (kf : ¬ 0 < x → GT Z E nL fin (pc + 3) lv (rest) M N t2) : GT Z E nL fin pc lv (.int x :: rest) M N (if 0 < x then t1 else t2) := by
  intro b hb H locs ls h1 h2 h3 h4
  by_cases hc : 0 < x
  · rw [if_pos hc] at hb; exact lv_if_gt C.x C.b hd ht (fun _ => kt hc b hb H locs ls h1 h2 h3 h4) (fun z => absurd hc z)
  · rw [if_neg hc] at hb; exact lv_if_gt C.x C.b hd ht (fun z => absurd z hc) (fun _ => kf hc b hb H locs ls h1 h2 h3 h4)
theorem r_ic_gt {x y : Int32} {off : Int} {tgt : Nat} (C : Ok wk Z E cc nL own ret h) (hd : decode cc pc = .ok (.if_icmp .gt off, 3)) (ht : (pc : Int) + off = (tgt : Int)) (kt : y < x → GT Z E nL fin tgt lv (rest) M N t1) (kf : ¬ y < x → GT Z E nL fin (pc + 3) lv (rest) M N t2) : GT Z E nL fin pc lv (.int y :: .int x :: rest) M N (if y < x then t1 else t2) := by
  intro b hb H locs ls h1 h2 h3 h4
  by_cases hc : y < x
  · rw [if_pos hc] at hb; exact lv_icmp_gt C.x C.b hd ht (fun _ => kt hc b hb H locs ls h1 h2 h3 h4) (fun z => absurd hc z)
  · rw [if_neg hc] at hb; exact lv_icmp_gt C.x C.b hd ht (fun z => absurd z hc) (fun _ => kf hc b hb H locs ls h1 h2 h3 h4)
theorem r_if_le {x : Int32} {off : Int} {tgt : Nat} (C : Ok wk Z E cc nL own ret h) (hd : decode cc pc = .ok (.ifCond .le off, 3)) (ht : (pc : Int) + off = (tgt : Int)) (kt : x ≤ 0 → GT Z E nL fin tgt lv (rest) M N t1) (kf : ¬ x ≤ 0 → GT Z E nL fin (pc + 3) lv (rest) M N t2) : GT Z E nL fin pc lv (.int x :: rest) M N (if x ≤ 0 then t1 else t2) := by
  intro b hb H locs ls h1 h2 h3 h4
  by_cases hc : x ≤ 0
  · rw [if_pos hc] at hb; exact lv_if_le C.x C.b hd ht (fun _ => kt hc b hb H locs ls h1 h2 h3 h4) (fun z => absurd hc z)
  · rw [if_neg hc] at hb; exact lv_if_le C.x C.b hd ht (fun z => absurd z hc) (fun _ => kf hc b hb H locs ls h1 h2 h3 h4)
theorem r_ic_le {x y : Int32} {off : Int} {tgt : Nat} (C : Ok wk Z E cc nL own ret h) (hd : decode cc pc = .ok (.if_icmp .le off, 3)) (ht : (pc : Int) + off = (tgt : Int)) (kt : x ≤ y → GT Z E nL fin tgt lv (rest) M N t1) (kf : ¬ x ≤ y → GT Z E nL fin (pc + 3) lv (rest) M N t2) : GT Z E nL fin pc lv (.int y :: .int x :: rest) M N (if x ≤ y then t1 else t2) := by
  intro b hb H locs ls h1 h2 h3 h4
  by_cases hc : x ≤ y
  · rw [if_pos hc] at hb; exact lv_icmp_le C.x C.b hd ht (fun _ => kt hc b hb H locs ls h1 h2 h3 h4) (fun z => absurd hc z)
  · rw [if_neg hc] at hb; exact lv_icmp_le C.x C.b hd ht (fun z => absurd z hc) (fun _ => kf hc b hb H locs ls h1 h2 h3 h4)
end ROWS2
section XROWS
variable {p : Program} {l : Launch} {e : Env} {R : Room} {s : State} {m : MethodId} {args : Array Value} {below : List Frame} {meth : Method} {c : Code} {H : Heap} {locs : List Loc} {cells slots : Nat} {Q : State → Prop}
variable {cc : ByteArray} {pc : Nat} {ls : Array Slot} {rest : List Value} {D : va_G} {cl : List vw_C} {a : Nat} {tys : List (ClassId × FieldType)}
/-- a field written, by its cell alone -/
theorem x_put (hexec : p.tables.exec = Jvm.exec) (hb : c.code = cc) {own C : String} {T : u_T} {N ci index : Nat} {Ts : List Cond} (hts : ∀ w ∈ Ts, w.before args s = true) (hin : ∀ w ∈ u_ws C T N, w ∈ Ts) (ty0 : Nat → FieldType) (hty : ∀ k, k < N → parseFieldDescriptor (T k).2.2.1 = some (ty0 k)) (hnm : ∀ a, a < N → ∀ b, b < N → a ≠ b → (T a).2.1 ≠ (T b).2.1) (hown : s.vm.findClass own = some m.cls) (hK : va_K D cl tys s) {fs : List Value} (he : va_at D cl (a, .inr (ci, fs)) H) (hc : cl[ci]? = some (C, T, N)) (k : Nat) (hk : k < N) (hlink : (Cond.fieldLink own index (T k).1 (T k).2.1 (T k).2.2.1).before args s = true) (hfin : (T k).2.2.2 = false) {ty : FieldType} {v : Value} (hd : parseFieldDescriptor (T k).2.2.1 = some ty) (hn : narrow ty v = v) (hfit : fits ty v = true) (hl : k < fs.length)
    (hdg : decode cc pc = .ok (.putfield index, 3)) (kk : ∀ (H1 : Heap) (j : Nat), va_at D cl (a, .inr (ci, fs.set k v)) H1 → H1.size = H.size → (∀ q : Nat, q ≠ a → H1[q]? = H[q]?) → W p l e R s m args below meth c H1 (locs ++ [⟨a, j⟩]) cells slots Q (F0 m (pc + 3) ls rest)) : W p l e R s m args below meth c H locs cells slots Q (F0 m pc ls (v :: .ref a :: rest)) := by
  have hap := va_apart (own := own) hts hin ty0 hty hnm hK hc
  obtain ⟨r, h1, cell, q1, q2, q3, q4⟩ := he
  have hr : r = (C, T, N) := Option.some.inj (h1.symm.trans hc)
  subst hr
  obtain ⟨hS, hfc, kC, hkC, hkind⟩ := hK.1 ci _ hc
  obtain ⟨cf, kf, fi, f, hi, hsl⟩ := hS k hk
  have hlay := hts _ (hin _ (u_in_lay hk))
  unfold u_lay at hlay
  rw [if_neg (by rw [hfin]; decide)] at hlay
  have hst := (u_facts hfc hkC (u_lays hts hin hk) hi).1
  have h6 := u_store hfc hkC hkind hlay hi hd hn hfit
  refine W.putK hexec hb (f := f) ⟨hown, hlink, ⟨_, _, _, hi⟩, hst⟩ (by rw [q2]; exact h6) q1 q3 (by rw [hsl]; exact k2_hasslot (q4 k hk)) rfl rfl hdg fun H' e1 e2 e3 => ?_
  rw [hsl] at e1 ⊢
  exact kk H' _ ⟨_, hc, t_OB.to (V := updV (vp_V fs) k v) ⟨_, e1, q2, q3, t_set q4 hap hk v⟩ (fun j _ => vp_updV_set hl v j)⟩ e2 e3
theorem x_putN (hexec : p.tables.exec = Jvm.exec) (hb : c.code = cc) {own C host : String} {T : u_T} {N ci index : Nat} {Ts : List Cond} (hts : ∀ w ∈ Ts, w.before args s = true) (hin : ∀ w ∈ u_ws C T N, w ∈ Ts) (ty0 : Nat → FieldType) (hty : ∀ k, k < N → parseFieldDescriptor (T k).2.2.1 = some (ty0 k)) (hnm : ∀ a, a < N → ∀ b, b < N → a ≠ b → (T a).2.1 ≠ (T b).2.1) (hown : s.vm.findClass own = some m.cls) (hK : va_K D cl tys s) {fs : List Value} (he : va_at D cl (a, .inr (ci, fs)) H) (hc : cl[ci]? = some (C, T, N)) (k : Nat) (hk : k < N) (hlink : (Cond.fieldLinkNest own index (T k).1 (T k).2.1 (T k).2.2.1 host).before args s = true) (hfin : (T k).2.2.2 = false) {ty : FieldType} {v : Value} (hd : parseFieldDescriptor (T k).2.2.1 = some ty) (hn : narrow ty v = v) (hfit : fits ty v = true) (hl : k < fs.length)
    (hdg : decode cc pc = .ok (.putfield index, 3)) (kk : ∀ (H1 : Heap) (j : Nat), va_at D cl (a, .inr (ci, fs.set k v)) H1 → H1.size = H.size → (∀ q : Nat, q ≠ a → H1[q]? = H[q]?) → W p l e R s m args below meth c H1 (locs ++ [⟨a, j⟩]) cells slots Q (F0 m (pc + 3) ls rest)) : W p l e R s m args below meth c H locs cells slots Q (F0 m pc ls (v :: .ref a :: rest)) := by
  have hap := va_apart (own := own) hts hin ty0 hty hnm hK hc
  obtain ⟨r, h1, cell, q1, q2, q3, q4⟩ := he
  have hr : r = (C, T, N) := Option.some.inj (h1.symm.trans hc)
  subst hr
  obtain ⟨hS, hfc, kC, hkC, hkind⟩ := hK.1 ci _ hc
  obtain ⟨cf, kf, fi, f, hi, hsl⟩ := hS k hk
  have hlay := hts _ (hin _ (u_in_lay hk))
  unfold u_lay at hlay
  rw [if_neg (by rw [hfin]; decide)] at hlay
  have hst := (u_facts hfc hkC (u_lays hts hin hk) hi).1
  have h6 := u_store hfc hkC hkind hlay hi hd hn hfit
  refine va_WputK hexec hb (f := f) hown hlink hi hst (by rw [q2]; exact h6) q1 q3 (by rw [hsl]; exact k2_hasslot (q4 k hk)) rfl rfl hdg fun H' e1 e2 e3 => ?_
  rw [hsl] at e1 ⊢
  exact kk H' _ ⟨_, hc, t_OB.to (V := updV (vp_V fs) k v) ⟨_, e1, q2, q3, t_set q4 hap hk v⟩ (fun j _ => vp_updV_set hl v j)⟩ e2 e3
theorem x_iast (hexec : p.tables.exec = Jvm.exec) (hb : c.code = cc) (hK : va_K D cl tys s) (t0 : Nat) {cA : ClassId} {n : Nat} {f : Nat → Int32} (ha : va_at D cl (a, .inl (cA, n, .inl f)) H) (ht : tys[t0]? = some (cA, .int)) {i : Int32} {x : Int32} (hin : vp_in i n) (hdg : decode cc pc = .ok (.iastore, 1))
    (kk : ∀ H1 : Heap, va_at D cl (a, .inl (cA, n, .inl (upd f i.toNatClampNeg x))) H1 → H1.size = H.size → (∀ q : Nat, q ≠ a → H1[q]? = H[q]?) → W p l e R s m args below meth c H1 (locs ++ [⟨a, i.toNatClampNeg⟩]) cells slots Q (F0 m (pc + 1) ls rest)) : W p l e R s m args below meth c H locs cells slots Q (F0 m pc ls (.int x :: .int i :: .ref a :: rest)) := by
  refine W.iast hexec hb ha ((hK.2 t0 _ ht).1 n (fun j => .int (f j))) (fun q => by cases q) (by show ¬ (i < 0 ∨ (arrV _ _ _).slots.size ≤ _); rw [arrV_size]; exact hin) rfl rfl hdg fun H1 e z oq => ?_
  refine kk H1 ?_ z oq
  show H1[a]? = some (vp_cell _ _)
  rw [e, vp_cell_i, vp_cell_i, arrV_store]
  congr 2
  funext q
  by_cases hq : q = i.toNatClampNeg
  · subst hq
    simp [updV, upd]
  · simp [updV, upd, hq]
theorem x_zast (hexec : p.tables.exec = Jvm.exec) (hb : c.code = cc) (hK : va_K D cl tys s) (t0 : Nat) {cA : ClassId} {n : Nat} {f : Nat → Int32} (ha : va_at D cl (a, .inl (cA, n, .inl f)) H) (ht : tys[t0]? = some (cA, .boolean)) {i : Int32} {x : Int32} (hin : vp_in i n) (hdg : decode cc pc = .ok (.bastore, 1))
    (kk : ∀ H1 : Heap, va_at D cl (a, .inl (cA, n, .inl (upd f i.toNatClampNeg (zn x)))) H1 → H1.size = H.size → (∀ q : Nat, q ≠ a → H1[q]? = H[q]?) → W p l e R s m args below meth c H1 (locs ++ [⟨a, i.toNatClampNeg⟩]) cells slots Q (F0 m (pc + 1) ls rest)) : W p l e R s m args below meth c H locs cells slots Q (F0 m pc ls (.int x :: .int i :: .ref a :: rest)) := by
  refine W.zast hexec hb ha ((hK.2 t0 _ ht).1 n (fun j => .int (f j))) (fun q => by cases q) (by show ¬ (i < 0 ∨ (arrV _ _ _).slots.size ≤ _); rw [arrV_size]; exact hin) rfl rfl hdg fun H1 e z oq => ?_
  refine kk H1 ?_ z oq
  show H1[a]? = some (vp_cell _ _)
  rw [e, vp_cell_i, vp_cell_i, arrV_store]
  congr 2
  funext q
  by_cases hq : q = i.toNatClampNeg
  · subst hq
    simp [updV, upd, narrow, zn]
  · simp [updV, upd, hq]
theorem x_last (hexec : p.tables.exec = Jvm.exec) (hb : c.code = cc) (hK : va_K D cl tys s) (t0 : Nat) {cA : ClassId} {n : Nat} {f : Nat → Int64} (ha : va_at D cl (a, .inl (cA, n, .inr (.inl f))) H) (ht : tys[t0]? = some (cA, .long)) {i : Int32} {x : Int64} (hin : vp_in i n) (hdg : decode cc pc = .ok (.lastore, 1))
    (kk : ∀ H1 : Heap, va_at D cl (a, .inl (cA, n, .inr (.inl (vp_updL f i.toNatClampNeg x)))) H1 → H1.size = H.size → (∀ q : Nat, q ≠ a → H1[q]? = H[q]?) → W p l e R s m args below meth c H1 (locs ++ [⟨a, i.toNatClampNeg⟩]) cells slots Q (F0 m (pc + 1) ls rest)) : W p l e R s m args below meth c H locs cells slots Q (F0 m pc ls (.long x :: .int i :: .ref a :: rest)) := by
  refine W.last hexec hb ha ((hK.2 t0 _ ht).1 n (fun j => .long (f j))) (fun q => by cases q) (by show ¬ (i < 0 ∨ (arrV _ _ _).slots.size ≤ _); rw [arrV_size]; exact hin) rfl rfl hdg fun H1 e z oq => ?_
  refine kk H1 ?_ z oq
  show H1[a]? = some (vp_cell _ _)
  rw [e, vp_cell_l, vp_cell_l, arrV_store]
  congr 2
  funext q
  by_cases hq : q = i.toNatClampNeg
  · subst hq
    simp [updV, vp_updL]
  · simp [updV, vp_updL, hq]
end XROWS
theorem sing {D : va_G} {cl : List vw_C} {q : Nat × va_E} {H : Heap} (h : va_at D cl q H) : va_P D cl [q] H := fun k x hk => by
  match k, hk with
  | 0, hk => cases hk; exact h
section MROWS
variable {wk : Nat} {Z : Zt} {E : Ec} {cc : ByteArray} {nL : Nat} {own : String} {ret : Option FieldType} {h : Nat} {β : Type} {fin : β → Option Value × Mi × Ml} {pc : Nat} {lv lv' : List (Nat × Value)} {st rest : List Value} {M M' : Mi} {N N' : Ml} {t t1 t2 : Option β}
theorem locs_put {locs : List Loc} {g p j : Nat} {σ : Nat → Int32} {ν : Nat → Int64} {e : va_E} (h3 : ∀ q ∈ locs, InA Z q.base) (he : zL Z g σ ν p = some e) : ∀ q ∈ locs ++ [(⟨zA Z g p, j⟩ : Loc)], InA Z q.base := fun q hq => by
  rcases List.mem_append.mp hq with h1 | h1
  · exact h3 q h1
  · rw [List.mem_singleton.mp h1]
    exact ⟨g, p, σ, ν, e, he, rfl⟩
theorem r_get (C : Ok wk Z E cc nL own ret h) {Cn : String} {T : u_T} {n ci index g p : Nat} {fs : List Value} {v : Value} (hin : ∀ w ∈ u_ws Cn T n, w ∈ base) (hc : vwCl[ci]? = some (Cn, T, n)) (k : Nat) (hk : k < n) (hw : Cond.fieldLink own index (T k).1 (T k).2.1 (T k).2.2.1 ∈ base) (hlay : zL Z g (M g) (N g) p = some (.inr (ci, fs))) (hv : fs[k]? = some v) (hd : decode cc pc = .ok (.getfield index, 3))
    (kk : GT Z E nL fin (pc + 3) lv (v :: rest) M N t) : GT Z E nL fin pc lv (.ref (zA Z g p) :: rest) M N t :=
  fun b hb H locs ls h1 h2 h3 h4 => va_get C.x C.b C.ts hin C.ow C.kn.1 (sing (h1 g p _ hlay)) 0 rfl hc k hk (C.ts _ hw) (fun _ q => q) hv hd (kk b hb H locs ls h1 h2 h3 h4)
theorem r_getN (C : Ok wk Z E cc nL own ret h) {Cn host : String} {T : u_T} {n ci index g p : Nat} {fs : List Value} {v : Value} (hin : ∀ w ∈ u_ws Cn T n, w ∈ base) (hc : vwCl[ci]? = some (Cn, T, n)) (k : Nat) (hk : k < n) (i : Nat) (hw : nestF[i]? = some (own, index, (T k).1, (T k).2.1, (T k).2.2.1, host)) (hlay : zL Z g (M g) (N g) p = some (.inr (ci, fs))) (hv : fs[k]? = some v) (hd : decode cc pc = .ok (.getfield index, 3))
    (kk : GT Z E nL fin (pc + 3) lv (v :: rest) M N t) : GT Z E nL fin pc lv (.ref (zA Z g p) :: rest) M N t :=
  fun b hb H locs ls h1 h2 h3 h4 => va_getN C.x C.b C.ts hin C.ow C.kn.1 (sing (h1 g p _ hlay)) 0 rfl hc k hk (C.kn.f i hw) (fun _ q => q) hv hd (kk b hb H locs ls h1 h2 h3 h4)
theorem r_put (C : Ok wk Z E cc nL own ret h) {Cn : String} {T : u_T} {n ci index g p : Nat} {fs : List Value} {v : Value} {σ : Nat → Int32} {ty : FieldType} (hin : ∀ w ∈ u_ws Cn T n, w ∈ base) (ty0 : Nat → FieldType) (hty : ∀ k, k < n → parseFieldDescriptor (T k).2.2.1 = some (ty0 k)) (hnm : ∀ a, a < n → ∀ b, b < n → a ≠ b → (T a).2.1 ≠ (T b).2.1) (hc : vwCl[ci]? = some (Cn, T, n)) (k : Nat) (hk : k < n) (hw : Cond.fieldLink own index (T k).1 (T k).2.1 (T k).2.2.1 ∈ base) (hfin : (T k).2.2.2 = false) (hdd : parseFieldDescriptor (T k).2.2.1 = some ty) (hn : narrow ty v = v) (hfit : fits ty v = true) (hl : k < fs.length)
    (hlay : zL Z g (M g) (N g) p = some (.inr (ci, fs))) (hlay1 : zL Z g σ (N g) p = some (.inr (ci, fs.set k v))) (ho : ∀ (p' : Nat) (e : va_E), p' ≠ p → zL Z g σ (N g) p' = some e → zL Z g (M g) (N g) p' = some e) (hM : sR M g σ = M') (hd : decode cc pc = .ok (.putfield index, 3))
    (kk : GT Z E nL fin (pc + 3) lv rest M' N t) : GT Z E nL fin pc lv (v :: .ref (zA Z g p) :: rest) M N t := by
  intro b hb H locs ls h1 h2 h3 h4
  refine x_put C.x C.b C.ts hin ty0 hty hnm C.ow C.kn.1 (h1 g p _ hlay) hc k hk (C.ts _ hw) hfin hdd hn hfit hl hd (fun H1 j he hz oq => ?_)
  have hR := h1.put C.z.1 hlay hlay1 he oq ho
  rw [sR_self, hM] at hR
  exact kk b hb H1 _ ls hR (h2.set ⟨g, p, _, _, _, hlay, rfl⟩ hz oq) (locs_put h3 hlay) h4
theorem r_putN (C : Ok wk Z E cc nL own ret h) {Cn host : String} {T : u_T} {n ci index g p : Nat} {fs : List Value} {v : Value} {σ : Nat → Int32} {ty : FieldType} (hin : ∀ w ∈ u_ws Cn T n, w ∈ base) (ty0 : Nat → FieldType) (hty : ∀ k, k < n → parseFieldDescriptor (T k).2.2.1 = some (ty0 k)) (hnm : ∀ a, a < n → ∀ b, b < n → a ≠ b → (T a).2.1 ≠ (T b).2.1) (hc : vwCl[ci]? = some (Cn, T, n)) (k : Nat) (hk : k < n) (i : Nat) (hw : nestF[i]? = some (own, index, (T k).1, (T k).2.1, (T k).2.2.1, host)) (hfin : (T k).2.2.2 = false) (hdd : parseFieldDescriptor (T k).2.2.1 = some ty) (hn : narrow ty v = v) (hfit : fits ty v = true) (hl : k < fs.length)
    (hlay : zL Z g (M g) (N g) p = some (.inr (ci, fs))) (hlay1 : zL Z g σ (N g) p = some (.inr (ci, fs.set k v))) (ho : ∀ (p' : Nat) (e : va_E), p' ≠ p → zL Z g σ (N g) p' = some e → zL Z g (M g) (N g) p' = some e) (hM : sR M g σ = M') (hd : decode cc pc = .ok (.putfield index, 3))
    (kk : GT Z E nL fin (pc + 3) lv rest M' N t) : GT Z E nL fin pc lv (v :: .ref (zA Z g p) :: rest) M N t := by
  intro b hb H locs ls h1 h2 h3 h4
  refine x_putN C.x C.b C.ts hin ty0 hty hnm C.ow C.kn.1 (h1 g p _ hlay) hc k hk (C.kn.f i hw) hfin hdd hn hfit hl hd (fun H1 j he hz oq => ?_)
  have hR := h1.put C.z.1 hlay hlay1 he oq ho
  rw [sR_self, hM] at hR
  exact kk b hb H1 _ ls hR (h2.set ⟨g, p, _, _, _, hlay, rfl⟩ hz oq) (locs_put h3 hlay) h4
theorem r_iald (C : Ok wk Z E cc nL own ret h) {g p n : Nat} {f : Nat → Int32} {i v : Int32} (hlay : zL Z g (M g) (N g) p = some (.inl (Z.2.1 0, n, .inl f))) (hin : vp_in i n) (hv : f i.toNatClampNeg = v) (hd : decode cc pc = .ok (.iaload, 1))
    (kk : GT Z E nL fin (pc + 1) lv (.int v :: rest) M N t) : GT Z E nL fin pc lv (.int i :: .ref (zA Z g p) :: rest) M N t :=
  fun b hb H locs ls h1 h2 h3 h4 => va_iald C.x C.b C.kn.1 (sing (h1 g p _ hlay)) 0 0 rfl rfl hin hd (hv ▸ kk b hb H locs ls h1 h2 h3 h4)
theorem r_zald (C : Ok wk Z E cc nL own ret h) {g p n : Nat} {f : Nat → Int32} {i v : Int32} (hlay : zL Z g (M g) (N g) p = some (.inl (Z.2.1 2, n, .inl f))) (hin : vp_in i n) (hv : f i.toNatClampNeg = v) (hd : decode cc pc = .ok (.baload, 1))
    (kk : GT Z E nL fin (pc + 1) lv (.int v :: rest) M N t) : GT Z E nL fin pc lv (.int i :: .ref (zA Z g p) :: rest) M N t :=
  fun b hb H locs ls h1 h2 h3 h4 => va_zald C.x C.b C.kn.1 (sing (h1 g p _ hlay)) 0 2 rfl rfl hin hd (hv ▸ kk b hb H locs ls h1 h2 h3 h4)
theorem r_lald (C : Ok wk Z E cc nL own ret h) {g p n : Nat} {f : Nat → Int64} {i : Int32} {v : Int64} (hlay : zL Z g (M g) (N g) p = some (.inl (Z.2.1 1, n, .inr (.inl f)))) (hin : vp_in i n) (hv : f i.toNatClampNeg = v) (hd : decode cc pc = .ok (.laload, 1))
    (kk : GT Z E nL fin (pc + 1) lv (.long v :: rest) M N t) : GT Z E nL fin pc lv (.int i :: .ref (zA Z g p) :: rest) M N t :=
  fun b hb H locs ls h1 h2 h3 h4 => va_lald C.x C.b C.kn.1 (sing (h1 g p _ hlay)) 0 1 rfl rfl hin hd (hv ▸ kk b hb H locs ls h1 h2 h3 h4)
theorem r_iast (C : Ok wk Z E cc nL own ret h) {g p n : Nat} {f : Nat → Int32} {σ : Nat → Int32} {i x : Int32} (hlay : zL Z g (M g) (N g) p = some (.inl (Z.2.1 0, n, .inl f))) (hlay1 : zL Z g σ (N g) p = some (.inl (Z.2.1 0, n, .inl (upd f i.toNatClampNeg x)))) (ho : ∀ (p' : Nat) (e : va_E), p' ≠ p → zL Z g σ (N g) p' = some e → zL Z g (M g) (N g) p' = some e) (hM : sR M g σ = M') (hin : vp_in i n) (hd : decode cc pc = .ok (.iastore, 1))
    (kk : GT Z E nL fin (pc + 1) lv rest M' N t) : GT Z E nL fin pc lv (.int x :: .int i :: .ref (zA Z g p) :: rest) M N t := by
  intro b hb H locs ls h1 h2 h3 h4
  refine x_iast C.x C.b C.kn.1 0 (h1 g p _ hlay) rfl hin hd (fun H1 he hz oq => ?_)
  have hR := h1.put C.z.1 hlay hlay1 he oq ho
  rw [sR_self, hM] at hR
  exact kk b hb H1 _ ls hR (h2.set ⟨g, p, _, _, _, hlay, rfl⟩ hz oq) (locs_put h3 hlay) h4
theorem r_zast (C : Ok wk Z E cc nL own ret h) {g p n : Nat} {f : Nat → Int32} {σ : Nat → Int32} {i x : Int32} (hlay : zL Z g (M g) (N g) p = some (.inl (Z.2.1 2, n, .inl f))) (hlay1 : zL Z g σ (N g) p = some (.inl (Z.2.1 2, n, .inl (upd f i.toNatClampNeg (zn x))))) (ho : ∀ (p' : Nat) (e : va_E), p' ≠ p → zL Z g σ (N g) p' = some e → zL Z g (M g) (N g) p' = some e) (hM : sR M g σ = M') (hin : vp_in i n) (hd : decode cc pc = .ok (.bastore, 1))
    (kk : GT Z E nL fin (pc + 1) lv rest M' N t) : GT Z E nL fin pc lv (.int x :: .int i :: .ref (zA Z g p) :: rest) M N t := by
  intro b hb H locs ls h1 h2 h3 h4
  refine x_zast C.x C.b C.kn.1 2 (h1 g p _ hlay) rfl hin hd (fun H1 he hz oq => ?_)
  have hR := h1.put C.z.1 hlay hlay1 he oq ho
  rw [sR_self, hM] at hR
  exact kk b hb H1 _ ls hR (h2.set ⟨g, p, _, _, _, hlay, rfl⟩ hz oq) (locs_put h3 hlay) h4
theorem r_last (C : Ok wk Z E cc nL own ret h) {g p n : Nat} {f : Nat → Int64} {ν : Nat → Int64} {i : Int32} {x : Int64} (hlay : zL Z g (M g) (N g) p = some (.inl (Z.2.1 1, n, .inr (.inl f)))) (hlay1 : zL Z g (M g) ν p = some (.inl (Z.2.1 1, n, .inr (.inl (vp_updL f i.toNatClampNeg x))))) (ho : ∀ (p' : Nat) (e : va_E), p' ≠ p → zL Z g (M g) ν p' = some e → zL Z g (M g) (N g) p' = some e) (hM : sR N g ν = N') (hin : vp_in i n) (hd : decode cc pc = .ok (.lastore, 1))
    (kk : GT Z E nL fin (pc + 1) lv rest M N' t) : GT Z E nL fin pc lv (.long x :: .int i :: .ref (zA Z g p) :: rest) M N t := by
  intro b hb H locs ls h1 h2 h3 h4
  refine x_last C.x C.b C.kn.1 1 (h1 g p _ hlay) rfl hin hd (fun H1 he hz oq => ?_)
  have hR := h1.put C.z.1 hlay hlay1 he oq ho
  rw [sR_self, hM] at hR
  exact kk b hb H1 _ ls hR (h2.set ⟨g, p, _, _, _, hlay, rfl⟩ hz oq) (locs_put h3 hlay) h4
theorem r_aald (C : Ok wk Z E cc nL own ret h) {g p n : Nat} {f : Nat → Nat} {i : Int32} {a : Nat} (hlay : zL Z g (M g) (N g) p = some (.inl (Z.2.1 3, n, .inr (.inr (.inr (.inr (fun i => some (f i)))))))) (hin : vp_in i n) (hv : f i.toNatClampNeg = a) (hd : decode cc pc = .ok (.aaload, 1))
    (kk : GT Z E nL fin (pc + 1) lv (.ref a :: rest) M N t) : GT Z E nL fin pc lv (.int i :: .ref (zA Z g p) :: rest) M N t :=
  fun b hb H locs ls h1 h2 h3 h4 => va_aldq C.x C.b C.kn.1 (sing (h1 g p _ hlay)) 0 3 rfl rfl hin hd (by subst hv; exact kk b hb H locs ls h1 h2 h3 h4)
/-- a long comparison and its branch -/
theorem r_lc_eq {x y : Int64} {off : Int} {tgt : Nat} (C : Ok wk Z E cc nL own ret h) (hl : decode cc pc = .ok (.lcmp, 1)) (hd : decode cc (pc + 1) = .ok (.ifCond .eq off, 3)) (ht : ((pc + 1 : Nat) : Int) + off = (tgt : Int)) (kt : x = y → GT Z E nL fin tgt lv rest M N t1) (kf : ¬ x = y → GT Z E nL fin (pc + 1 + 3) lv rest M N t2) : GT Z E nL fin pc lv (.long y :: .long x :: rest) M N (if x = y then t1 else t2) := by
  intro b hb H locs ls h1 h2 h3 h4
  refine W.lcmp C.x C.b hl ?_
  by_cases hc : x = y
  · rw [if_pos hc] at hb; exact lv_if_eq C.x C.b hd ht (fun _ => kt hc b hb H locs ls h1 h2 h3 h4) (fun z => absurd ((lg_cmp_eq x y).mpr hc) z)
  · rw [if_neg hc] at hb; exact lv_if_eq C.x C.b hd ht (fun z => absurd ((lg_cmp_eq x y).mp z) hc) (fun _ => kf hc b hb H locs ls h1 h2 h3 h4)
theorem r_lc_ne {x y : Int64} {off : Int} {tgt : Nat} (C : Ok wk Z E cc nL own ret h) (hl : decode cc pc = .ok (.lcmp, 1)) (hd : decode cc (pc + 1) = .ok (.ifCond .ne off, 3)) (ht : ((pc + 1 : Nat) : Int) + off = (tgt : Int)) (kt : ¬ x = y → GT Z E nL fin tgt lv rest M N t2) (kf : x = y → GT Z E nL fin (pc + 1 + 3) lv rest M N t1) : GT Z E nL fin pc lv (.long y :: .long x :: rest) M N (if x = y then t1 else t2) := by
  intro b hb H locs ls h1 h2 h3 h4
  refine W.lcmp C.x C.b hl ?_
  by_cases hc : x = y
  · rw [if_pos hc] at hb; exact lv_if_ne C.x C.b hd ht (fun z => absurd ((lg_cmp_eq x y).mpr hc) z) (fun _ => kf hc b hb H locs ls h1 h2 h3 h4)
  · rw [if_neg hc] at hb; exact lv_if_ne C.x C.b hd ht (fun _ => kt hc b hb H locs ls h1 h2 h3 h4) (fun z => absurd ((lg_cmp_eq x y).mp z) hc)
theorem r_lc_lt {x y : Int64} {off : Int} {tgt : Nat} (C : Ok wk Z E cc nL own ret h) (hl : decode cc pc = .ok (.lcmp, 1)) (hd : decode cc (pc + 1) = .ok (.ifCond .lt off, 3)) (ht : ((pc + 1 : Nat) : Int) + off = (tgt : Int)) (kt : x < y → GT Z E nL fin tgt lv rest M N t1) (kf : ¬ x < y → GT Z E nL fin (pc + 1 + 3) lv rest M N t2) : GT Z E nL fin pc lv (.long y :: .long x :: rest) M N (if x < y then t1 else t2) := by
  intro b hb H locs ls h1 h2 h3 h4
  refine W.lcmp C.x C.b hl ?_
  by_cases hc : x < y
  · rw [if_pos hc] at hb; exact lv_if_lt C.x C.b hd ht (fun _ => kt hc b hb H locs ls h1 h2 h3 h4) (fun z => absurd ((lg_cmp_lt x y).mpr hc) z)
  · rw [if_neg hc] at hb; exact lv_if_lt C.x C.b hd ht (fun z => absurd ((lg_cmp_lt x y).mp z) hc) (fun _ => kf hc b hb H locs ls h1 h2 h3 h4)
theorem r_lc_ge {x y : Int64} {off : Int} {tgt : Nat} (C : Ok wk Z E cc nL own ret h) (hl : decode cc pc = .ok (.lcmp, 1)) (hd : decode cc (pc + 1) = .ok (.ifCond .ge off, 3)) (ht : ((pc + 1 : Nat) : Int) + off = (tgt : Int)) (kt : y ≤ x → GT Z E nL fin tgt lv rest M N t1) (kf : ¬ y ≤ x → GT Z E nL fin (pc + 1 + 3) lv rest M N t2) : GT Z E nL fin pc lv (.long y :: .long x :: rest) M N (if y ≤ x then t1 else t2) := by
  intro b hb H locs ls h1 h2 h3 h4
  refine W.lcmp C.x C.b hl ?_
  by_cases hc : y ≤ x
  · rw [if_pos hc] at hb; exact lv_if_ge C.x C.b hd ht (fun _ => kt hc b hb H locs ls h1 h2 h3 h4) (fun z => absurd ((lg_cmp_ge x y).mpr hc) z)
  · rw [if_neg hc] at hb; exact lv_if_ge C.x C.b hd ht (fun z => absurd ((lg_cmp_ge x y).mp z) hc) (fun _ => kf hc b hb H locs ls h1 h2 h3 h4)
theorem r_lc_gt {x y : Int64} {off : Int} {tgt : Nat} (C : Ok wk Z E cc nL own ret h) (hl : decode cc pc = .ok (.lcmp, 1)) (hd : decode cc (pc + 1) = .ok (.ifCond .gt off, 3)) (ht : ((pc + 1 : Nat) : Int) + off = (tgt : Int)) (kt : y < x → GT Z E nL fin tgt lv rest M N t1) (kf : ¬ y < x → GT Z E nL fin (pc + 1 + 3) lv rest M N t2) : GT Z E nL fin pc lv (.long y :: .long x :: rest) M N (if y < x then t1 else t2) := by
  intro b hb H locs ls h1 h2 h3 h4
  refine W.lcmp C.x C.b hl ?_
  by_cases hc : y < x
  · rw [if_pos hc] at hb; exact lv_if_gt C.x C.b hd ht (fun _ => kt hc b hb H locs ls h1 h2 h3 h4) (fun z => absurd ((lg_cmp_gt x y).mpr hc) z)
  · rw [if_neg hc] at hb; exact lv_if_gt C.x C.b hd ht (fun z => absurd ((lg_cmp_gt x y).mp z) hc) (fun _ => kf hc b hb H locs ls h1 h2 h3 h4)
theorem r_lc_le {x y : Int64} {off : Int} {tgt : Nat} (C : Ok wk Z E cc nL own ret h) (hl : decode cc pc = .ok (.lcmp, 1)) (hd : decode cc (pc + 1) = .ok (.ifCond .le off, 3)) (ht : ((pc + 1 : Nat) : Int) + off = (tgt : Int)) (kt : x ≤ y → GT Z E nL fin tgt lv rest M N t1) (kf : ¬ x ≤ y → GT Z E nL fin (pc + 1 + 3) lv rest M N t2) : GT Z E nL fin pc lv (.long y :: .long x :: rest) M N (if x ≤ y then t1 else t2) := by
  intro b hb H locs ls h1 h2 h3 h4
  refine W.lcmp C.x C.b hl ?_
  by_cases hc : x ≤ y
  · rw [if_pos hc] at hb; exact lv_if_le C.x C.b hd ht (fun _ => kt hc b hb H locs ls h1 h2 h3 h4) (fun z => absurd ((lg_cmp_le x y).mpr hc) z)
  · rw [if_neg hc] at hb; exact lv_if_le C.x C.b hd ht (fun z => absurd ((lg_cmp_le x y).mp z) hc) (fun _ => kf hc b hb H locs ls h1 h2 h3 h4)
/-- a case of a switch -/
theorem r_tsw {dflt lo hi : Int} {offs : Array Int} {len : Nat} {x k : Int32} {off : Int} {tgt : Nat} (C : Ok wk Z E cc nL own ret h) (hd : decode cc pc = .ok (.tableswitch dflt lo hi offs, len)) (hk1 : ¬ k.toInt < lo) (hk2 : ¬ hi < k.toInt) (ho : offs[(k.toInt - lo).toNat]? = some off) (ht : (pc : Int) + off = (tgt : Int))
    (kt : x = k → GT Z E nL fin tgt lv rest M N t1) (kf : ¬ x = k → GT Z E nL fin pc lv (.int x :: rest) M N t2) : GT Z E nL fin pc lv (.int x :: rest) M N (if x = k then t1 else t2) := by
  intro b hb H locs ls h1 h2 h3 h4
  by_cases hc : x = k
  · rw [if_pos hc] at hb
    subst hc
    exact lv_tableIn C.x C.b hd hk1 hk2 ho ht (kt rfl b hb H locs ls h1 h2 h3 h4)
  · rw [if_neg hc] at hb
    exact kf hc b hb H locs ls h1 h2 h3 h4
theorem r_tswd {dflt lo hi : Int} {offs : Array Int} {len : Nat} {x : Int32} {tgt : Nat} (C : Ok wk Z E cc nL own ret h) (hd : decode cc pc = .ok (.tableswitch dflt lo hi offs, len)) (hx : x.toInt < lo ∨ hi < x.toInt) (ht : (pc : Int) + dflt = (tgt : Int))
    (kt : GT Z E nL fin tgt lv rest M N t) : GT Z E nL fin pc lv (.int x :: rest) M N t :=
  fun b hb H locs ls h1 h2 h3 h4 => lv_tableOut C.x C.b hd hx ht (kt b hb H locs ls h1 h2 h3 h4)
theorem r_zret {b : β} {v : Int32} (C : Ok wk Z E cc nL own (some .boolean) h) (hd : decode cc pc = .ok (.ireturn, 1)) (hz : v = 0 ∨ v = 1) (hf : fin b = (some (.int v), M, N)) : GT Z E nL fin pc lv [.int v] M N (some b) := by
  intro b' hb' H locs ls h1 h2 h3 h4
  cases hb'
  exact W.zret C.x C.b C.rt (by rcases hz with rfl | rfl <;> rfl) (fun t ht _ => ⟨by rw [hf], by rw [hf, ht]; exact h1, by rw [ht]; exact h2⟩) h3 hd C.lk
/-! calls -/
theorem pcZ_blind {av : List Value} : FrameBlind (pcZ wk Z av M N) := fun a U g mk q => ⟨q.1, q.2.1, KN.same (u := U) rfl q.2.2.1, q.2.2.2.2.2.1.2 U (U.calling g mk a) rfl rfl q.2.2.2.1, q.2.2.2.2⟩
theorem pcZ_pre {av : List Value} {H : Heap} (C : Ok wk Z E cc nL own ret h) (h1 : Rep Z M N H) (h2 : Fr Z (eS E).heap H) : ∀ U : State, U.heap = H → (eS E).WarmedH U.vm → pcZ wk Z av M N av.toArray U := fun U hU hW => ⟨rfl, by rw [hU]; exact h1, C.kn.warm hW, C.z.2.1.1 _ _ hW (by rw [hU]; exact h2) C.sta, C.z⟩
theorem locs_app {locs L : List Loc} (h3 : ∀ q ∈ locs, InA Z q.base) (h4 : ∀ q ∈ L, InA Z q.base) : ∀ q ∈ locs ++ L, InA Z q.base := fun q hq => (List.mem_append.mp hq).elim (h3 q) (h4 q)
theorem run_GT {g0 : JFrame} {r : Option Value × Mi × Ml} {a0 : Array Value} {H : Heap} {locs : List Loc} {Q : State → Prop} {ls : Array Slot} {s0 : List Value} (hg : g0 = F0 (eM E) pc ls s0) (hr : va_Run E.1 E.2.1 E.2.2.1 E.2.2.2.1 E.2.2.2.2.1 E.2.2.2.2.2.1 E.2.2.2.2.2.2.1 E.2.2.2.2.2.2.2.1 E.2.2.2.2.2.2.2.2.1 E.2.2.2.2.2.2.2.2.2 H locs 0 0 0 0 g0 rest (qo Z r a0) (InA Z))
    (h2 : Fr Z (eS E).heap H) (h3 : ∀ q ∈ locs, InA Z q.base)
    (kk : ∀ (H1 : Heap) (locs1 : List Loc), Rep Z r.2.1 r.2.2 H1 → Fr Z (eS E).heap H1 → (∀ q ∈ locs1, InA Z q.base) → Wc E H1 locs1 Q (F0 (eM E) (pc + 3) ls (r.1.toList ++ rest))) : Wc E H locs Q g0 := by
  intro T hT X
  obtain ⟨v, st₀, t, T', L, h0, X', hL, e1, e2, ⟨hv, hR, hF⟩, st⟩ := hr T hT X
  cases hv
  obtain ⟨t2, a1, b1⟩ := kk t.heap (locs ++ L) hR (h2.trans (by rw [← h0]; exact hF)) (locs_app h3 hL) T' e1 X'
  subst hg
  exact ⟨t2, st t2 a1, b1⟩
/-- what a link needs: static, virtual, of a nest mate -/
def LkS (own : String) (idx : Nat) (y : MethodName) (bytes : ByteArray) (maxL : Nat) (rt : Option FieldType) (n : Nat) : Prop :=
  (∀ w ∈ va_wsS own idx y [Cond.code y bytes maxL rt], w ∈ base) ∧ (y.cls ≠ "java/lang/invoke/MethodHandle" ∧ y.cls ≠ "java/lang/invoke/VarHandle" ∧ (parseMethodDescriptor y.desc).map (fun d => d.parameters.length) = some n) ∧ maxL ≤ 11
def LkV (own : String) (idx : Nat) (y : MethodName) (bytes : ByteArray) (maxL : Nat) (rt : Option FieldType) (n : Nat) : Prop :=
  (∀ w ∈ wsV own idx y.cls y [Cond.code y bytes maxL rt], w ∈ base) ∧ (y.cls ≠ "java/lang/invoke/MethodHandle" ∧ y.cls ≠ "java/lang/invoke/VarHandle" ∧ (parseMethodDescriptor y.desc).map (fun d => d.parameters.length) = some n) ∧ maxL ≤ 11
theorem good_base {ws : List Cond} {w0 : Cond} (pre : List Cond) (hm : ∀ w ∈ pre ++ [w0], w ∈ base) : GoodIn base (pre ++ (w0 :: base)) := fun w hw => by
  rcases List.mem_append.mp hw with h1 | h1
  · exact goodIn_base w (hm w (List.mem_append_left _ h1))
  · rcases List.mem_cons.mp h1 with rfl | h1
    · exact goodIn_base _ (hm _ (List.mem_append_right _ (List.mem_singleton.mpr rfl)))
    · exact goodIn_base w h1
theorem room_ok {h' maxL : Nat} (C : Ok wk Z E cc nL own ret h) (hm : maxL ≤ 11) (hh : h' < h) : (rmH h').frames + 1 ≤ E.2.2.2.1.frames ∧ 8 + (maxL + 11) + (rmH h').locals ≤ E.2.2.2.1.locals := by
  rw [C.rm]
  exact ⟨hh, by show 8 + (maxL + 11) + 30 * h' ≤ 30 * h; omega⟩
theorem cells_ok {n : Nat} : 0 + 0 ≤ n := Nat.zero_le _
theorem r_callS {y : MethodName} {bytes : ByteArray} {maxL h' idx n : Nat} {rt : Option FieldType} {av : List Value} {rv : Option Value} (C : Ok wk Z E cc nL own ret h) (hM : Ct wk Z (eL E) y bytes maxL rt h' av M N (rv, M', N')) (hk : LkS own idx y bytes maxL rt n) (hh : h' < h) (hn : av.length = n) (hst : st = av.reverse ++ rest) (hW : (rest.map fun v => v.category).sum ≤ 8) (hd : decode cc pc = .ok (.invokestatic idx, 3)) {st2 : List Value} (hr2 : rv.toList ++ rest = st2)
    (kk : GT Z E nL fin (pc + 3) lv st2 M' N' t) : GT Z E nL fin pc lv st M N t := by
  intro b hb H locs ls h1 h2 h3 h4
  subst hst; subst hr2
  exact run_GT (r := (rv, M', N')) rfl (va_runS (As := av) (rest := rest) (n := n) ⟨C.x, C.b, C.ml, C.ow, C.ts⟩ hM (va_cwS n C.ts (good_base (ws := []) _ hk.1) rfl rfl rfl hk.2.1 (room_ok C hk.2.2 hh)) ⟨pcZ_blind, pcZ_pre C h1 h2⟩ rfl hn h4.1 rfl (lv_room hW) hd ⟨cells_ok, cells_ok⟩) h2 h3 (fun H1 locs1 g1 g2 g3 => kk b hb H1 locs1 ls g1 g2 g3 h4)
def RcV (Z : Zt) (E : Ec) (M : Mi) (N : Ml) (a : Nat) (Cn : String) : Prop := ∀ H : Heap, Rep Z M N H → Fr Z (eS E).heap H → ∃ cell : Cell, H[a]? = some cell ∧ cell.vm.isStatics = false ∧ (eS E).vm.findClass Cn = some cell.cls
theorem recvZ {ci g p : Nat} {fs : List Value} {Cn : String} {T : u_T} {n : Nat} (C : Ok wk Z E cc nL own ret h) (hc : vwCl[ci]? = some (Cn, T, n)) (hlay : zL Z g (M g) (N g) p = some (.inr (ci, fs))) : RcV Z E M N (zA Z g p) Cn :=
  fun _ h1 _ => va_recv (q0 := 0) C.kn.1 (sing (h1 g p _ hlay)) hc rfl
theorem r_callV {y : MethodName} {bytes : ByteArray} {maxL h' idx n a : Nat} {rt : Option FieldType} {As : List Value} {rv : Option Value} (C : Ok wk Z E cc nL own ret h) (hM : Ct wk Z (eL E) y bytes maxL rt h' (.ref a :: As) M N (rv, M', N')) (hk : LkV own idx y bytes maxL rt n) (hv : RcV Z E M N a y.cls) (hh : h' < h) (hn : As.length = n) (hst : st = As.reverse ++ .ref a :: rest) (hW : (rest.map fun v => v.category).sum ≤ 8) (hd : decode cc pc = .ok (.invokevirtual idx, 3)) {st2 : List Value} (hr2 : rv.toList ++ rest = st2)
    (kk : GT Z E nL fin (pc + 3) lv st2 M' N' t) : GT Z E nL fin pc lv st M N t := by
  intro b hb H locs ls h1 h2 h3 h4
  subst hst; subst hr2
  exact run_GT (r := (rv, M', N')) rfl (va_runV (As := As) (rest := rest) (n := n) ⟨C.x, C.b, C.ml, C.ow, C.ts⟩ hM (cwV n C.ts (good_base (ws := []) _ hk.1) rfl rfl rfl ⟨rfl, hk.2.1⟩ (room_ok C hk.2.2 hh)) ⟨pcZ_blind, hv H h1 h2, pcZ_pre C h1 h2⟩ rfl hn h4.1 rfl (lv_room hW) hd ⟨cells_ok, cells_ok⟩) h2 h3 (fun H1 locs1 g1 g2 g3 => kk b hb H1 locs1 ls g1 g2 g3 h4)
/-- a static method of a nest mate -/
theorem r_callSN {y : MethodName} {host : String} {bytes : ByteArray} {maxL h' idx n : Nat} {rt : Option FieldType} {av : List Value} {rv : Option Value} (C : Ok wk Z E cc nL own ret h) (hM : Ct wk Z (eL E) y bytes maxL rt h' av M N (rv, M', N')) (i : Nat) (hi : nestM[i]? = some (own, idx, y, host)) (hw : Cond.code y bytes maxL rt ∈ base) (hini : Cond.initialized y.cls ∈ base) (hstat : Cond.static y ∈ base) (hdd : y.cls ≠ "java/lang/invoke/MethodHandle" ∧ y.cls ≠ "java/lang/invoke/VarHandle" ∧ (parseMethodDescriptor y.desc).map (fun d => d.parameters.length) = some n) (hm : maxL ≤ 11) (hh : h' < h) (hn : av.length = n) (hst : st = av.reverse ++ rest) (hW : (rest.map fun v => v.category).sum ≤ 8) (hd : decode cc pc = .ok (.invokestatic idx, 3)) {st2 : List Value} (hr2 : rv.toList ++ rest = st2)
    (kk : GT Z E nL fin (pc + 3) lv st2 M' N' t) : GT Z E nL fin pc lv st M N t := by
  intro b hb H locs ls h1 h2 h3 h4
  subst hst; subst hr2
  exact run_GT (r := (rv, M', N')) rfl (va_runSN (As := av) (rest := rest) (n := n) ⟨C.x, C.b, C.ml, C.ow, C.ts⟩ hM ⟨va_cnB n C.ts (fun w q => by rcases List.mem_cons.mp q with rfl | q; exact goodIn_base _ hw; exact goodIn_base w q) rfl rfl rfl (C.kn.m i hi) (C.ts _ hini) hdd (room_ok C hm hh), C.ts _ hstat, trivial⟩ ⟨pcZ_blind, pcZ_pre C h1 h2⟩ rfl hn h4.1 rfl (lv_room hW) hd ⟨cells_ok, cells_ok⟩) h2 h3 (fun H1 locs1 g1 g2 g3 => kk b hb H1 locs1 ls g1 g2 g3 h4)
end MROWS

