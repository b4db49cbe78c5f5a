/-! where the cells of the worlds lie in the memory; loads and stores of arrays -/
abbrev ix (i : Int32) : Nat := i.toNatClampNeg
abbrev inb (i : Int32) (n : Nat) : Prop := ¬ i < 0 ∧ i.toNatClampNeg < n
theorem inb_in {i : Int32} {n : Nat} (h : inb i n) : vp_in i n := fun q => q.elim h.1 (fun z => absurd h.2 (Nat.not_lt.mpr z))
theorem upd_ne {f : Nat → Int32} {k j : Nat} {x : Int32} (h : j ≠ k) : upd f k x j = f j := pk_un h
theorem lyI {Z : Zt} (hz : Zok 1 Z) {j : Nat} (hj : j < 4) (σ : Nat → Int32) (ν : Nat → Int64) (p : Nat) : zL Z j σ ν p = layI (zA Z) Z.2.1 j σ p := by rw [hz.X]; unfold layX; rw [if_pos hj]
theorem lyS {Z : Zt} (hz : Zok 1 Z) {g : Nat} (hg : 20 ≤ g ∧ g < 24) (σ : Nat → Int32) (ν : Nat → Int64) (p : Nat) : zL Z g σ ν p = layS (zA Z) Z.2.1 g σ ν p := by rw [hz.X]; unfold layX; rw [if_neg (by omega), if_pos hg]
theorem lyO {Z : Zt} (hz : Zok 1 Z) {g : Nat} (h1 : ¬ g < 4) (h2 : ¬ (20 ≤ g ∧ g < 24)) (σ : Nat → Int32) (ν : Nat → Int64) (p : Nat) : zL Z g σ ν p = layO (zA Z) Z.2.1 g σ p := by rw [hz.X]; unfold layX; rw [if_neg h1, if_neg h2]
theorem lyM {Z : Zt} (hz : Zok 2 Z) (g : Nat) (σ : Nat → Int32) (ν : Nat → Int64) (p : Nat) : zL Z g σ ν p = layM (zA Z) Z.2.1 g σ ν p := by rw [hz.M]
section LAYS
variable {A : Nat → Nat → Nat} {cy : Nat → ClassId} {g : Nat}
theorem cI {σ σ' : Nat → Int32} (p : Nat) (h : match p with
    | 0 => σ' 2 = σ 2 ∧ σ' 6 = σ 6 ∧ σ' 0 = σ 0 ∧ σ' 1 = σ 1
    | 1 => ∀ i, σ' (if i < 3 then 3 + i else 100 + i) = σ (if i < 3 then 3 + i else 100 + i)
    | 2 => ∀ i, σ' (7 + 4 * i) = σ (7 + 4 * i)
    | 3 => ∀ i, σ' (8 + 4 * i) = σ (8 + 4 * i)
    | 4 => ∀ i, σ' (9 + 4 * i) = σ (9 + 4 * i)
    | 5 => ∀ i, σ' (10 + 4 * i) = σ (10 + 4 * i)
    | _ => True) : layI A cy g σ' p = layI A cy g σ p := by
  match p, h with
  | 0, h => simp only [layI]; rw [h.1, h.2.1, h.2.2.1, h.2.2.2]
  | 1, h => simp only [layI]; rw [show (fun i => σ' (if i < 3 then 3 + i else 100 + i)) = (fun i => σ (if i < 3 then 3 + i else 100 + i)) from funext h]
  | 2, h => simp only [layI]; rw [show (fun i => σ' (7 + 4 * i)) = (fun i => σ (7 + 4 * i)) from funext h]
  | 3, h => simp only [layI]; rw [show (fun i => σ' (8 + 4 * i)) = (fun i => σ (8 + 4 * i)) from funext h]
  | 4, h => simp only [layI]; rw [show (fun i => σ' (9 + 4 * i)) = (fun i => σ (9 + 4 * i)) from funext h]
  | 5, h => simp only [layI]; rw [show (fun i => σ' (10 + 4 * i)) = (fun i => σ (10 + 4 * i)) from funext h]
  | n + 6, _ => rfl
/-- a write that a part of an island doesn't show -/
theorem cIu {σ : Nat → Int32} {k : Nat} {x : Int32} (p : Nat) (h : match p with
    | 0 => 3 ≤ k ∧ k ≠ 6
    | 1 => ¬ (3 ≤ k ∧ k ≤ 5) ∧ k < 100
    | 2 => k < 7 ∨ k % 4 ≠ 3
    | 3 => k < 8 ∨ k % 4 ≠ 0
    | 4 => k < 9 ∨ k % 4 ≠ 1
    | 5 => k < 10 ∨ k % 4 ≠ 2
    | _ => True) : layI A cy g (upd σ k x) p = layI A cy g σ p := by
  refine cI p ?_
  match p, h with
  | 0, h => have h : 3 ≤ k ∧ k ≠ 6 := h; exact ⟨upd_ne (by omega), upd_ne (by omega), upd_ne (by omega), upd_ne (by omega)⟩
  | 1, h => have h : ¬ (3 ≤ k ∧ k ≤ 5) ∧ k < 100 := h; exact fun i => upd_ne (by split <;> omega)
  | 2, h => have h : k < 7 ∨ k % 4 ≠ 3 := h; exact fun i => upd_ne (by omega)
  | 3, h => have h : k < 8 ∨ k % 4 ≠ 0 := h; exact fun i => upd_ne (by omega)
  | 4, h => have h : k < 9 ∨ k % 4 ≠ 1 := h; exact fun i => upd_ne (by omega)
  | 5, h => have h : k < 10 ∨ k % 4 ≠ 2 := h; exact fun i => upd_ne (by omega)
  | n + 6, _ => trivial
theorem hoO {σ : Nat → Int32} {k : Nat} {x : Int32} (hk : k < 3 ∨ k = 6) (p : Nat) (hp : p ≠ 0) : layI A cy g (upd σ k x) p = layI A cy g σ p := by
  refine cIu p ?_
  match p, hp with
  | 0, hp => exact absurd rfl hp
  | 1, _ => constructor <;> omega
  | 2, _ => left; omega
  | 3, _ => left; omega
  | 4, _ => left; omega
  | 5, _ => left; omega
  | n + 6, _ => trivial
theorem ho1 {σ : Nat → Int32} {k : Nat} {x : Int32} (hk : k < 3) (p : Nat) (hp : p ≠ 1) : layI A cy g (upd σ (3 + k) x) p = layI A cy g σ p := by
  refine cIu p ?_
  match p, hp with
  | 0, _ => constructor <;> omega
  | 1, hp => exact absurd rfl hp
  | 2, _ => left; omega
  | 3, _ => left; omega
  | 4, _ => left; omega
  | 5, _ => left; omega
  | n + 6, _ => trivial
theorem hoA {σ : Nat → Int32} {k d : Nat} {x : Int32} (hk : k < 8) (hd : d < 4) (p : Nat) (hp : p ≠ 2 + d) : layI A cy g (upd σ (7 + d + 4 * k) x) p = layI A cy g σ p := by
  refine cIu p ?_
  match p, hp with
  | 0, _ => constructor <;> omega
  | 1, _ => constructor <;> omega
  | 2, hp => right; omega
  | 3, hp => right; omega
  | 4, hp => right; omega
  | 5, hp => right; omega
  | n + 6, _ => trivial
theorem stI1 {σ : Nat → Int32} {k : Nat} {x : Int32} (hk : k < 3) : layI A cy g (upd σ (3 + k) x) 1 = some (.inl (cy 0, 3, .inl (upd (fun i => σ (if i < 3 then 3 + i else 100 + i)) k x))) := by
  simp only [layI]
  rw [show (fun i => upd σ (3 + k) x (if i < 3 then 3 + i else 100 + i)) = upd (fun i => σ (if i < 3 then 3 + i else 100 + i)) k x from ?_]
  funext i
  by_cases h : i = k
  · subst h; rw [if_pos hk, pk_us, pk_us]
  · rw [upd_ne h, upd_ne (by split <;> omega)]
theorem stA {σ : Nat → Int32} {k d : Nat} {x : Int32} : (fun i => upd σ (d + 4 * k) x (d + 4 * i)) = upd (fun i => σ (d + 4 * i)) k x := by
  funext i
  by_cases h : i = k
  · subst h; rw [pk_us, pk_us]
  · rw [upd_ne h, upd_ne (by omega)]
theorem stB {σ : Nat → Int32} {k d : Nat} {x : Int32} : (fun i => upd σ (d + k) x (d + i)) = upd (fun i => σ (d + i)) k x := by
  funext i
  by_cases h : i = k
  · subst h; rw [pk_us, pk_us]
  · rw [upd_ne h, upd_ne (by omega)]
end LAYS
section AROWS
variable {Z : Zt} {E : Ec} {cc : ByteArray} {nL : Nat} {own : String} {ret : Option FieldType} {h : Nat} {β : Type} {fin : β → Option Value × Mi × Ml} {pc : Nat} {lv lv' : List (Nat × Value)} {st rest : List Value} {M M' : Mi} {N N' : Ml} {t t1 t2 : Option β}
theorem ald_I1 {j : Nat} {i v : Int32} (C : Ok 1 Z E cc nL own ret h) (hj : j < 4) (hin : inb i 3) (hv : M j (3 + ix i) = v) (hd : decode cc pc = .ok (.iaload, 1)) (kk : GT Z E nL fin (pc + 1) lv (.int v :: rest) M N t) : GT Z E nL fin pc lv (.int i :: .ref (zA Z j 1) :: rest) M N t :=
  r_iald C (lyI C.z hj _ _ 1) (inb_in hin) (by show M j (if ix i < 3 then 3 + ix i else 100 + ix i) = v; rw [if_pos hin.2]; exact hv) hd kk
theorem ast_I1 {j : Nat} {i v : Int32} (C : Ok 1 Z E cc nL own ret h) (hj : j < 4) (hin : inb i 3) (hM : wM M j (3 + ix i) v = M') (hd : decode cc pc = .ok (.iastore, 1)) (kk : GT Z E nL fin (pc + 1) lv rest M' N t) : GT Z E nL fin pc lv (.int v :: .int i :: .ref (zA Z j 1) :: rest) M N t :=
  r_iast C (σ := upd (M j) (3 + ix i) v) (lyI C.z hj _ _ 1) ((lyI C.z hj _ _ 1).trans (stI1 hin.2)) (fun p e hp q => by rw [lyI C.z hj] at q ⊢; rw [← q]; exact (ho1 hin.2 p hp).symm) hM (inb_in hin) hd kk
theorem ald_I2 {j : Nat} {i v : Int32} (C : Ok 1 Z E cc nL own ret h) (hj : j < 4) (hin : inb i 8) (hv : M j (7 + 4 * ix i) = v) (hd : decode cc pc = .ok (.iaload, 1)) (kk : GT Z E nL fin (pc + 1) lv (.int v :: rest) M N t) : GT Z E nL fin pc lv (.int i :: .ref (zA Z j 2) :: rest) M N t :=
  r_iald C (lyI C.z hj _ _ 2) (inb_in hin) hv hd kk
theorem ald_I3 {j : Nat} {i v : Int32} (C : Ok 1 Z E cc nL own ret h) (hj : j < 4) (hin : inb i 8) (hv : M j (8 + 4 * ix i) = v) (hd : decode cc pc = .ok (.iaload, 1)) (kk : GT Z E nL fin (pc + 1) lv (.int v :: rest) M N t) : GT Z E nL fin pc lv (.int i :: .ref (zA Z j 3) :: rest) M N t :=
  r_iald C (lyI C.z hj _ _ 3) (inb_in hin) hv hd kk
theorem ald_I4 {j : Nat} {i v : Int32} (C : Ok 1 Z E cc nL own ret h) (hj : j < 4) (hin : inb i 8) (hv : M j (9 + 4 * ix i) = v) (hd : decode cc pc = .ok (.iaload, 1)) (kk : GT Z E nL fin (pc + 1) lv (.int v :: rest) M N t) : GT Z E nL fin pc lv (.int i :: .ref (zA Z j 4) :: rest) M N t :=
  r_iald C (lyI C.z hj _ _ 4) (inb_in hin) hv hd kk
theorem ald_I5 {j : Nat} {i v : Int32} (C : Ok 1 Z E cc nL own ret h) (hj : j < 4) (hin : inb i 8) (hv : M j (10 + 4 * ix i) = v) (hd : decode cc pc = .ok (.baload, 1)) (kk : GT Z E nL fin (pc + 1) lv (.int v :: rest) M N t) : GT Z E nL fin pc lv (.int i :: .ref (zA Z j 5) :: rest) M N t :=
  r_zald C (lyI C.z hj _ _ 5) (inb_in hin) hv hd kk
theorem ast_I2 {j : Nat} {i v : Int32} (C : Ok 1 Z E cc nL own ret h) (hj : j < 4) (hin : inb i 8) (hM : wM M j (7 + 4 * ix i) v = M') (hd : decode cc pc = .ok (.iastore, 1)) (kk : GT Z E nL fin (pc + 1) lv rest M' N t) : GT Z E nL fin pc lv (.int v :: .int i :: .ref (zA Z j 2) :: rest) M N t :=
  r_iast C (σ := upd (M j) (7 + 4 * ix i) v) (lyI C.z hj _ _ 2) ((lyI C.z hj _ _ 2).trans (by simp only [layI]; rw [stA])) (fun p e hp q => by rw [lyI C.z hj] at q ⊢; rw [← q]; exact (hoA (d := 0) hin.2 (by omega) p hp).symm) hM (inb_in hin) hd kk
theorem ast_I3 {j : Nat} {i v : Int32} (C : Ok 1 Z E cc nL own ret h) (hj : j < 4) (hin : inb i 8) (hM : wM M j (8 + 4 * ix i) v = M') (hd : decode cc pc = .ok (.iastore, 1)) (kk : GT Z E nL fin (pc + 1) lv rest M' N t) : GT Z E nL fin pc lv (.int v :: .int i :: .ref (zA Z j 3) :: rest) M N t :=
  r_iast C (σ := upd (M j) (8 + 4 * ix i) v) (lyI C.z hj _ _ 3) ((lyI C.z hj _ _ 3).trans (by simp only [layI]; rw [stA])) (fun p e hp q => by rw [lyI C.z hj] at q ⊢; rw [← q]; exact (hoA (d := 1) hin.2 (by omega) p hp).symm) hM (inb_in hin) hd kk
theorem ast_I4 {j : Nat} {i v : Int32} (C : Ok 1 Z E cc nL own ret h) (hj : j < 4) (hin : inb i 8) (hM : wM M j (9 + 4 * ix i) v = M') (hd : decode cc pc = .ok (.iastore, 1)) (kk : GT Z E nL fin (pc + 1) lv rest M' N t) : GT Z E nL fin pc lv (.int v :: .int i :: .ref (zA Z j 4) :: rest) M N t :=
  r_iast C (σ := upd (M j) (9 + 4 * ix i) v) (lyI C.z hj _ _ 4) ((lyI C.z hj _ _ 4).trans (by simp only [layI]; rw [stA])) (fun p e hp q => by rw [lyI C.z hj] at q ⊢; rw [← q]; exact (hoA (d := 2) hin.2 (by omega) p hp).symm) hM (inb_in hin) hd kk
theorem ast_I5 {j : Nat} {i v : Int32} (C : Ok 1 Z E cc nL own ret h) (hj : j < 4) (hin : inb i 8) (hM : wM M j (10 + 4 * ix i) (zn v) = M') (hd : decode cc pc = .ok (.bastore, 1)) (kk : GT Z E nL fin (pc + 1) lv rest M' N t) : GT Z E nL fin pc lv (.int v :: .int i :: .ref (zA Z j 5) :: rest) M N t :=
  r_zast C (σ := upd (M j) (10 + 4 * ix i) (zn v)) (lyI C.z hj _ _ 5) ((lyI C.z hj _ _ 5).trans (by simp only [layI]; rw [stA])) (fun p e hp q => by rw [lyI C.z hj] at q ⊢; rw [← q]; exact (hoA (d := 3) hin.2 (by omega) p hp).symm) hM (inb_in hin) hd kk
theorem ald_B {i v : Int32} (C : Ok 1 Z E cc nL own ret h) (hin : inb i 120) (hv : M 5 (10 + ix i) = v) (hd : decode cc pc = .ok (.iaload, 1)) (kk : GT Z E nL fin (pc + 1) lv (.int v :: rest) M N t) : GT Z E nL fin pc lv (.int i :: .ref (zA Z 5 1) :: rest) M N t :=
  r_iald C (lyO C.z (by decide) (by decide) _ _ 1) (inb_in hin) hv hd kk
theorem ast_B {i v : Int32} (C : Ok 1 Z E cc nL own ret h) (hin : inb i 120) (hM : wM M 5 (10 + ix i) v = M') (hd : decode cc pc = .ok (.iastore, 1)) (kk : GT Z E nL fin (pc + 1) lv rest M' N t) : GT Z E nL fin pc lv (.int v :: .int i :: .ref (zA Z 5 1) :: rest) M N t :=
  r_iast C (σ := upd (M 5) (10 + ix i) v) (lyO C.z (by decide) (by decide) _ _ 1) ((lyO C.z (by decide) (by decide) _ _ 1).trans (by simp only [layO]; rw [stB])) (fun p e hp q => by
    rw [lyO C.z (by decide) (by decide)] at q ⊢
    rw [← q]
    match p, hp with
    | 0, _ => simp only [layO]; rw [upd_ne (by omega), upd_ne (by omega), upd_ne (by omega), upd_ne (by omega), upd_ne (by omega), upd_ne (by omega)]
    | 1, hp => exact absurd rfl hp
    | n + 2, _ => rfl) hM (inb_in hin) hd kk
theorem ald_F {i v : Int32} (C : Ok 1 Z E cc nL own ret h) (hin : inb i 7) (hv : M 7 (ix i) = v) (hd : decode cc pc = .ok (.iaload, 1)) (kk : GT Z E nL fin (pc + 1) lv (.int v :: rest) M N t) : GT Z E nL fin pc lv (.int i :: .ref (zA Z 7 0) :: rest) M N t :=
  r_iald C (lyO C.z (by decide) (by decide) _ _ 0) (inb_in hin) hv hd kk
theorem ast_F {i v : Int32} (C : Ok 1 Z E cc nL own ret h) (hin : inb i 7) (hM : wM M 7 (ix i) v = M') (hd : decode cc pc = .ok (.iastore, 1)) (kk : GT Z E nL fin (pc + 1) lv rest M' N t) : GT Z E nL fin pc lv (.int v :: .int i :: .ref (zA Z 7 0) :: rest) M N t :=
  r_iast C (σ := upd (M 7) (ix i) v) (lyO C.z (by decide) (by decide) _ _ 0) (lyO C.z (by decide) (by decide) _ _ 0) (fun p e hp q => by
    rw [lyO C.z (by decide) (by decide)] at q ⊢
    rw [← q]
    match p, hp with
    | 0, hp => exact absurd rfl hp
    | n + 1, _ => rfl) hM (inb_in hin) hd kk
theorem ald_T {i : Int32} (C : Ok 1 Z E cc nL own ret h) (hin : inb i 4) (hd : decode cc pc = .ok (.aaload, 1)) (kk : GT Z E nL fin (pc + 1) lv (.ref (zA Z (20 + ix i) 0) :: rest) M N t) : GT Z E nL fin pc lv (.int i :: .ref (zA Z 6 0) :: rest) M N t :=
  r_aald C (f := fun i => zA Z (20 + i) 0) (lyO C.z (by decide) (by decide) _ _ 0) (inb_in hin) rfl hd kk
theorem ald_S {g : Nat} {i : Int32} {v : Int64} (C : Ok 1 Z E cc nL own ret h) (hg : 20 ≤ g ∧ g < 24) (hin : inb i 40) (hv : N g (ix i) = v) (hd : decode cc pc = .ok (.laload, 1)) (kk : GT Z E nL fin (pc + 1) lv (.long v :: rest) M N t) : GT Z E nL fin pc lv (.int i :: .ref (zA Z g 1) :: rest) M N t :=
  r_lald C (lyS C.z hg _ _ 1) (inb_in hin) hv hd kk
theorem ast_S {g : Nat} {i : Int32} {v : Int64} (C : Ok 1 Z E cc nL own ret h) (hg : 20 ≤ g ∧ g < 24) (hin : inb i 40) (hN : wN N g (ix i) v = N') (hd : decode cc pc = .ok (.lastore, 1)) (kk : GT Z E nL fin (pc + 1) lv rest M N' t) : GT Z E nL fin pc lv (.long v :: .int i :: .ref (zA Z g 1) :: rest) M N t :=
  r_last C (ν := vp_updL (N g) (ix i) v) (lyS C.z hg _ _ 1) (lyS C.z hg _ _ 1) (fun p e hp q => by
    rw [lyS C.z hg] at q ⊢
    rw [← q]
    match p, hp with
    | 0, _ => rfl
    | 1, hp => exact absurd rfl hp
    | n + 2, _ => rfl) hN (inb_in hin) hd kk
/-- the reference's rows of ints and longs -/
def mI (g n : Nat) : Prop := ∀ (B : Nat → Nat → Nat) (cy : Nat → ClassId) (σ : Nat → Int32) (ν : Nat → Int64), layM B cy g σ ν 0 = some (.inl (cy 0, n, .inl σ)) ∧ ∀ p, p ≠ 0 → layM B cy g σ ν p = none
def mL (g n : Nat) : Prop := ∀ (B : Nat → Nat → Nat) (cy : Nat → ClassId) (σ : Nat → Int32) (ν : Nat → Int64), layM B cy g σ ν 0 = some (.inl (cy 1, n, .inr (.inl ν))) ∧ ∀ p, p ≠ 0 → layM B cy g σ ν p = none
theorem mI_0 : mI 0 39 := fun _ _ _ _ => ⟨rfl, fun p hp => by match p, hp with | 0, hp => exact absurd rfl hp | n + 1, _ => rfl⟩
theorem mI_1 : mI 1 39 := fun _ _ _ _ => ⟨rfl, fun p hp => by match p, hp with | 0, hp => exact absurd rfl hp | n + 1, _ => rfl⟩
theorem mI_2 : mI 2 39 := fun _ _ _ _ => ⟨rfl, fun p hp => by match p, hp with | 0, hp => exact absurd rfl hp | n + 1, _ => rfl⟩
theorem mI_3 : mI 3 39 := fun _ _ _ _ => ⟨rfl, fun p hp => by match p, hp with | 0, hp => exact absurd rfl hp | n + 1, _ => rfl⟩
theorem mI_4 : mI 4 7 := fun _ _ _ _ => ⟨rfl, fun p hp => by match p, hp with | 0, hp => exact absurd rfl hp | n + 1, _ => rfl⟩
theorem mI_5 : mI 5 120 := fun _ _ _ _ => ⟨rfl, fun p hp => by match p, hp with | 0, hp => exact absurd rfl hp | n + 1, _ => rfl⟩
theorem mI_7 : mI 7 4 := fun _ _ _ _ => ⟨rfl, fun p hp => by match p, hp with | 0, hp => exact absurd rfl hp | n + 1, _ => rfl⟩
theorem mI_8 : mI 8 4 := fun _ _ _ _ => ⟨rfl, fun p hp => by match p, hp with | 0, hp => exact absurd rfl hp | n + 1, _ => rfl⟩
theorem mL_9 : mL 9 160 := fun _ _ _ _ => ⟨rfl, fun p hp => by match p, hp with | 0, hp => exact absurd rfl hp | n + 1, _ => rfl⟩
theorem mL_10 : mL 10 40 := fun _ _ _ _ => ⟨rfl, fun p hp => by match p, hp with | 0, hp => exact absurd rfl hp | n + 1, _ => rfl⟩
theorem ald_M {g n : Nat} {i v : Int32} (C : Ok 2 Z E cc nL own ret h) (hm : mI g n) (hin : inb i n) (hv : M g (ix i) = v) (hd : decode cc pc = .ok (.iaload, 1)) (kk : GT Z E nL fin (pc + 1) lv (.int v :: rest) M N t) : GT Z E nL fin pc lv (.int i :: .ref (zA Z g 0) :: rest) M N t :=
  r_iald C ((lyM C.z g _ _ 0).trans (hm _ _ _ _).1) (inb_in hin) hv hd kk
theorem ast_M {g n : Nat} {i v : Int32} (C : Ok 2 Z E cc nL own ret h) (hm : mI g n) (hin : inb i n) (hM : wM M g (ix i) v = M') (hd : decode cc pc = .ok (.iastore, 1)) (kk : GT Z E nL fin (pc + 1) lv rest M' N t) : GT Z E nL fin pc lv (.int v :: .int i :: .ref (zA Z g 0) :: rest) M N t :=
  r_iast C (σ := upd (M g) (ix i) v) ((lyM C.z g _ _ 0).trans (hm _ _ _ _).1) ((lyM C.z g _ _ 0).trans (hm _ _ _ _).1) (fun p e hp q => by rw [lyM C.z, (hm _ _ _ _).2 p hp] at q; cases q) hM (inb_in hin) hd kk
theorem ald_ML {g n : Nat} {i : Int32} {v : Int64} (C : Ok 2 Z E cc nL own ret h) (hm : mL g n) (hin : inb i n) (hv : N g (ix i) = v) (hd : decode cc pc = .ok (.laload, 1)) (kk : GT Z E nL fin (pc + 1) lv (.long v :: rest) M N t) : GT Z E nL fin pc lv (.int i :: .ref (zA Z g 0) :: rest) M N t :=
  r_lald C ((lyM C.z g _ _ 0).trans (hm _ _ _ _).1) (inb_in hin) hv hd kk
theorem ast_ML {g n : Nat} {i : Int32} {v : Int64} (C : Ok 2 Z E cc nL own ret h) (hm : mL g n) (hin : inb i n) (hN : wN N g (ix i) v = N') (hd : decode cc pc = .ok (.lastore, 1)) (kk : GT Z E nL fin (pc + 1) lv rest M N' t) : GT Z E nL fin pc lv (.long v :: .int i :: .ref (zA Z g 0) :: rest) M N t :=
  r_last C (ν := vp_updL (N g) (ix i) v) ((lyM C.z g _ _ 0).trans (hm _ _ _ _).1) ((lyM C.z g _ _ 0).trans (hm _ _ _ _).1) (fun p e hp q => by rw [lyM C.z, (hm _ _ _ _).2 p hp] at q; cases q) hN (inb_in hin) hd kk
theorem rvI {j : Nat} (C : Ok 1 Z E cc nL own ret h) (hj : j < 4) : RcV Z E M N (zA Z j 0) RX0 := recvZ C (ci := 0) rfl (lyI C.z hj _ _ 0)
theorem rvR (C : Ok 1 Z E cc nL own ret h) : RcV Z E M N (zA Z 4 0) RX1 := recvZ C (ci := 1) rfl (lyO C.z (by decide) (by decide) _ _ 0)
theorem rvS {g : Nat} (C : Ok 1 Z E cc nL own ret h) (hg : 20 ≤ g ∧ g < 24) : RcV Z E M N (zA Z g 0) RX2 := recvZ C (ci := 2) rfl (lyS C.z hg _ _ 0)
theorem rvT (C : Ok 1 Z E cc nL own ret h) : RcV Z E M N (zA Z 5 0) RX3 := recvZ C (ci := 3) rfl (lyO C.z (by decide) (by decide) _ _ 0)
theorem rvX (C : Ok 1 Z E cc nL own ret h) : RcV Z E M N (zA Z 8 0) RX4 := recvZ C (ci := 4) rfl (lyO C.z (by decide) (by decide) _ _ 0)
theorem rvM (C : Ok 2 Z E cc nL own ret h) : RcV Z E M N (zA Z 6 0) RX5 := recvZ C (ci := 5) rfl (lyM C.z _ _ _ 0)
theorem gS {i : Int32} (hi : inb i 4) : 20 ≤ 20 + ix i ∧ 20 + ix i < 24 := ⟨Nat.le_add_right _ _, by have q : ix i < 4 := hi.2; omega⟩
theorem Ct.selfR {k : Nat} {l : Launch} {y : MethodName} {cc : ByteArray} {mL hh g : Nat} {rt : Option FieldType} {av : List Value} {rv : Option Value} (c : Ct k Z l y cc mL rt hh av (sR M g (M g)) N (rv, sR M g (M g), N')) : Ct k Z l y cc mL rt hh av M N (rv, M, N') := by rw [sR_self] at c; exact c
theorem Ct.selfW {k : Nat} {l : Launch} {y : MethodName} {cc : ByteArray} {mL hh g : Nat} {rt : Option FieldType} {av : List Value} {r : Option Value × Mi × Ml} (c : Ct k Z l y cc mL rt hh av (sR M g (M g)) N r) : Ct k Z l y cc mL rt hh av M N r := by rw [sR_self] at c; exact c
theorem r_same {P : Prop} [Decidable P] (k : GT Z E nL fin pc lv st M N (if P then t else t)) : GT Z E nL fin pc lv st M N t := by
  by_cases hp : P
  · rw [if_pos hp] at k; exact k
  · rw [if_neg hp] at k; exact k
end AROWS
