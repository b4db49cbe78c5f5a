/-! the two worlds as the law makes them, from the address n on -/
def offX (g p : Nat) : Nat := if g < 4 then (if g = 0 then 1 else if g = 1 then 7 else if g = 2 then 13 else 20) + p else if 20 ≤ g ∧ g < 24 then 29 + 2 * (g - 20) + p else if g = 4 then 19 else if g = 5 then 26 + p else if g = 6 then 28 else if g = 7 then 37 else 0
def vX (g p : Nat) : Bool := (decide (g < 4) && decide (p < 6)) || ((decide (20 ≤ g) && decide (g < 24)) && decide (p < 2)) || (decide (g = 4) && decide (p = 0)) || (decide (g = 5) && decide (p < 2)) || (decide (g = 6) && decide (p = 0)) || (decide (g = 7) && decide (p = 0)) || (decide (g = 8) && decide (p = 0))
theorem vX_lay {A : Nat → Nat → Nat} {cy : Nat → ClassId} {g p : Nat} {σ : Nat → Int32} {ν : Nat → Int64} {e : va_E} (h : layX A cy g σ ν p = some e) : vX g p = true ∧ g < 24 ∧ p < 6 := by
  unfold layX at h
  by_cases h1 : g < 4
  · rw [if_pos h1] at h
    have hp : p < 6 := by
      match p, h with
      | 0, _ => omega
      | 1, _ => omega
      | 2, _ => omega
      | 3, _ => omega
      | 4, _ => omega
      | 5, _ => omega
      | n + 6, h => cases h
    exact ⟨by simp [vX, h1, hp], by omega, hp⟩
  · rw [if_neg h1] at h
    by_cases h2 : 20 ≤ g ∧ g < 24
    · rw [if_pos h2] at h
      have hp : p < 2 := by
        match p, h with
        | 0, _ => omega
        | 1, _ => omega
        | n + 2, h => cases h
      exact ⟨by simp [vX, h2, hp], by omega, by omega⟩
    · rw [if_neg h2] at h
      unfold layO at h
      split at h <;> first | (cases h; done) | exact ⟨by decide, by decide, by decide⟩
theorem offX_injb : ∀ g, g < 24 → ∀ p, p < 6 → ∀ g', g' < 24 → ∀ p', p' < 6 → (!(vX g p) || !(vX g' p') || !(offX g p == offX g' p') || (g == g' && p == p')) = true := by decide +kernel
theorem offX_inj (g : Nat) (hg : g < 24) (p : Nat) (hp : p < 6) (hv : vX g p = true) (g' : Nat) (hg' : g' < 24) (p' : Nat) (hp' : p' < 6) (hv' : vX g' p' = true) (ho : offX g p = offX g' p') : g = g' ∧ p = p' := by
  have h := offX_injb g hg p hp g' hg' p' hp'
  rw [hv, hv', ho] at h
  simpa using h
theorem offX_lt : ∀ g, g < 24 → ∀ p, p < 6 → vX g p = true → offX g p < 38 := by decide +kernel
def aX (n : Nat) (K V : Nat → Nat) (ka : Nat) (g p : Nat) : Nat := if g = 40 then K p else if g = 41 then V p else if g = 42 then ka else n + offX g p
theorem aX_n {n : Nat} {K V : Nat → Nat} {ka g p : Nat} (h : g < 24) : aX n K V ka g p = n + offX g p := by
  unfold aX; rw [if_neg (by omega), if_neg (by omega), if_neg (by omega)]
def aM (n : Nat) (g _p : Nat) : Nat := n + (if g = 6 then 38 else if g < 6 then 39 + g else 38 + g)
theorem vM_lay {A : Nat → Nat → Nat} {cy : Nat → ClassId} {g p : Nat} {σ : Nat → Int32} {ν : Nat → Int64} {e : va_E} (h : layM A cy g σ ν p = some e) : g < 11 ∧ p = 0 := by
  unfold layM at h
  split at h <;> first | (cases h; done) | exact ⟨by decide, rfl⟩
/-- the class's world and the reference's -/
def InX (cy : Nat → ClassId) (A : Nat → Nat → Nat) (q : Nat) : Prop := ∃ (g p : Nat) (σ : Nat → Int32) (ν : Nat → Int64) (e : va_E), layX A cy g σ ν p = some e ∧ q = A g p
def zX (D : va_G) (cy : Nat → ClassId) (n : Nat) (K V : Nat → Nat) (ka : Nat) : Zt := (D, cy, aX n K V ka, layX (aX n K V ka) cy, fun U => StaX (aX n K V ka) (InX cy (aX n K V ka)) U)
def zM (D : va_G) (cy : Nat → ClassId) (n : Nat) : Zt := (D, cy, aM n, layM (aM n) cy, fun _ => True)
theorem inX_ge {cy : Nat → ClassId} {n : Nat} {K V : Nat → Nat} {ka q : Nat} (h : InX cy (aX n K V ka) q) : n ≤ q ∧ q < n + 38 := by
  obtain ⟨g, p, σ, ν, e, h1, rfl⟩ := h
  obtain ⟨hv, hg, hp⟩ := vX_lay h1
  rw [aX_n hg]
  have := offX_lt g hg p hp hv
  omega
theorem inM_ge {D : va_G} {cy : Nat → ClassId} {n q : Nat} (h : InA (zM D cy n) q) : n + 38 ≤ q ∧ q < n + 49 := by
  obtain ⟨g, p, σ, ν, e, h1, rfl⟩ := h
  obtain ⟨hg, hp⟩ := vM_lay h1
  show n + 38 ≤ aM n g p ∧ aM n g p < n + 49
  unfold aM
  split
  · omega
  · split <;> omega
theorem inX_eq {D : va_G} {cy : Nat → ClassId} {n : Nat} {K V : Nat → Nat} {ka : Nat} : InA (zX D cy n K V ka) = InX cy (aX n K V ka) := rfl
theorem apX {D : va_G} {cy : Nat → ClassId} {n : Nat} {K V : Nat → Nat} {ka : Nat} : Apart (zX D cy n K V ka) := by
  intro g p g' p' σ σ' ν ν' e e' h1 h2 h3
  obtain ⟨a1, a2, a3⟩ := vX_lay h1
  obtain ⟨b1, b2, b3⟩ := vX_lay h2
  have h3 : aX n K V ka g p = aX n K V ka g' p' := h3
  rw [aX_n a2, aX_n b2] at h3
  exact offX_inj g a2 p a3 a1 g' b2 p' b3 b1 (by omega)
theorem apM {D : va_G} {cy : Nat → ClassId} {n : Nat} : Apart (zM D cy n) := by
  intro g p g' p' σ σ' ν ν' e e' h1 h2 h3
  obtain ⟨a1, a2⟩ := vM_lay h1
  obtain ⟨b1, b2⟩ := vM_lay h2
  have h3 : aM n g p = aM n g' p' := h3
  unfold aM at h3
  refine ⟨?_, by omega⟩
  split at h3 <;> split at h3 <;> (try split at h3) <;> (try split at h3) <;> omega
theorem StaX.move {A : Nat → Nat → Nat} {I : Nat → Prop} {s U : State} (hW : s.WarmedH U.vm) (hq : ∀ q : Nat, q < s.heap.size → ¬ I q → U.heap[q]? = s.heap[q]?) (h : StaX A I s) : StaX A I U :=
  ⟨(h.1.moved hW.alike).kept hq, (h.2.1.moved hW.alike).kept hq, (h.2.2.1.moved hW.alike).kept hq, fun k i tx hk => (h.2.2.2.1 k i tx hk).warm hW, (h.2.2.2.2.1.moved hW.alike).kept hq, (h.2.2.2.2.2.moved hW.alike).kept hq⟩
theorem StaX.same {A : Nat → Nat → Nat} {I : Nat → Prop} {u U : State} (hv : u.vm = U.vm) (hh : u.heap = U.heap) (h : StaX A I u) : StaX A I U := by
  have al : u.vm.Alike U.vm := by rw [hv]; exact Vm.Alike.refl _
  unfold StaX
  rw [← hh]
  exact ⟨h.1.moved al, h.2.1.moved al, h.2.2.1.moved al, fun k i tx hk => (h.2.2.2.1 k i tx hk).same hv.symm, h.2.2.2.2.1.moved al, h.2.2.2.2.2.moved al⟩
theorem okX {D : va_G} {cy : Nat → ClassId} {n : Nat} {K V : Nat → Nat} {ka : Nat} : Zok 1 (zX D cy n K V ka) :=
  ⟨apX, ⟨fun s U hW hF h => StaX.move hW (fun q _ z => hF.2 q z) h, fun u U hv hh h => StaX.same hv hh h⟩, rfl, fun U h => h⟩
theorem okM {D : va_G} {cy : Nat → ClassId} {n : Nat} : Zok 2 (zM D cy n) := ⟨apM, ⟨fun _ _ _ _ _ => trivial, fun _ _ _ _ _ => trivial⟩, rfl⟩
/-- the memory that the constructors leave -/
def sg0 (k : Nat) : Int32 := if k = 3 then 14 else if k = 4 then 3 else if k = 5 then 24 else 0
def Mx0 : Mi := fun g => if g < 4 then sg0 else fun _ => 0
def Mm0 : Mi := fun g => if g = 0 then sg0 else fun _ => 0
def N0 : Ml := fun _ _ => 0
theorem sg0_ge {k : Nat} (h : 6 ≤ k) : sg0 k = 0 := by unfold sg0; rw [if_neg (by omega), if_neg (by omega), if_neg (by omega)]
theorem sg0_sp : (fun i => sg0 (if i < 3 then 3 + i else 100 + i)) = upd (upd (upd (fun _ => 0) 0 14) 1 3) 2 24 := by
  funext i
  match i with
  | 0 => rfl
  | 1 => rfl
  | 2 => rfl
  | n + 3 => rw [if_neg (by omega), sg0_ge (by omega), upd_ne (by omega), upd_ne (by omega), upd_ne (by omega)]
theorem sg0_m : sg0 = upd (upd (upd (fun _ => 0) 3 14) 4 3) 5 24 := by
  funext i
  by_cases h5 : i = 5
  · subst h5; rfl
  · by_cases h4 : i = 4
    · subst h4; rfl
    · by_cases h3 : i = 3
      · subst h3; rfl
      · rw [upd_ne h5, upd_ne h4, upd_ne h3]; unfold sg0; rw [if_neg h3, if_neg h4, if_neg h5]
theorem sg0_k (d : Nat) (hd : 6 ≤ d) : (fun i => sg0 (d + 4 * i)) = fun _ => 0 := funext fun i => sg0_ge (by omega)
theorem arrV_congr4 {cA : ClassId} {n : Nat} {f f' : Nat → Value} (h : ∀ i, i < n → f i = f' i) : arrV cA n f = arrV cA n f' := by
  unfold arrV
  congr 1
  apply Array.ext
  · simp
  · intro i h1 h2
    simp at h1 ⊢
    exact h i h1
theorem rep0I {D : va_G} {cy : Nat → ClassId} {n : Nat} {K V : Nat → Nat} {ka : Nat} {H : Heap} (hB : Blk D n (ctX4 cy n ++ ctX5 cy (n + 38)) H) {g : Nat} (hg : g < 4) {p : Nat} {e : va_E} (h : layI (aX n K V ka) cy g sg0 p = some e) : va_at D vwCl (aX n K V ka g p, e) H := by
  have q : ∀ p, aX n K V ka g p = n + offX g p := fun p => aX_n (by omega)
  match g, hg with
  | 0, _ =>
    match p, h with
    | 0, h => cases h; exact hB.2 1 _ rfl
    | 1, h => simp only [layI] at h; rw [sg0_sp] at h; cases h; exact hB.2 2 _ rfl
    | 2, h => simp only [layI] at h; rw [sg0_k 7 (by omega)] at h; cases h; exact hB.2 3 _ rfl
    | 3, h => simp only [layI] at h; rw [sg0_k 8 (by omega)] at h; cases h; exact hB.2 4 _ rfl
    | 4, h => simp only [layI] at h; rw [sg0_k 9 (by omega)] at h; cases h; exact hB.2 5 _ rfl
    | 5, h => simp only [layI] at h; rw [sg0_k 10 (by omega)] at h; cases h; exact hB.2 6 _ rfl
    | _ + 6, h => cases h
  | 1, _ =>
    match p, h with
    | 0, h => cases h; exact hB.2 7 _ rfl
    | 1, h => simp only [layI] at h; rw [sg0_sp] at h; cases h; exact hB.2 8 _ rfl
    | 2, h => simp only [layI] at h; rw [sg0_k 7 (by omega)] at h; cases h; exact hB.2 9 _ rfl
    | 3, h => simp only [layI] at h; rw [sg0_k 8 (by omega)] at h; cases h; exact hB.2 10 _ rfl
    | 4, h => simp only [layI] at h; rw [sg0_k 9 (by omega)] at h; cases h; exact hB.2 11 _ rfl
    | 5, h => simp only [layI] at h; rw [sg0_k 10 (by omega)] at h; cases h; exact hB.2 12 _ rfl
    | _ + 6, h => cases h
  | 2, _ =>
    match p, h with
    | 0, h => cases h; exact hB.2 13 _ rfl
    | 1, h => simp only [layI] at h; rw [sg0_sp] at h; cases h; exact hB.2 14 _ rfl
    | 2, h => simp only [layI] at h; rw [sg0_k 7 (by omega)] at h; cases h; exact hB.2 15 _ rfl
    | 3, h => simp only [layI] at h; rw [sg0_k 8 (by omega)] at h; cases h; exact hB.2 16 _ rfl
    | 4, h => simp only [layI] at h; rw [sg0_k 9 (by omega)] at h; cases h; exact hB.2 17 _ rfl
    | 5, h => simp only [layI] at h; rw [sg0_k 10 (by omega)] at h; cases h; exact hB.2 18 _ rfl
    | _ + 6, h => cases h
  | 3, _ =>
    match p, h with
    | 0, h => cases h; exact hB.2 20 _ rfl
    | 1, h => simp only [layI] at h; rw [sg0_sp] at h; cases h; exact hB.2 21 _ rfl
    | 2, h => simp only [layI] at h; rw [sg0_k 7 (by omega)] at h; cases h; exact hB.2 22 _ rfl
    | 3, h => simp only [layI] at h; rw [sg0_k 8 (by omega)] at h; cases h; exact hB.2 23 _ rfl
    | 4, h => simp only [layI] at h; rw [sg0_k 9 (by omega)] at h; cases h; exact hB.2 24 _ rfl
    | 5, h => simp only [layI] at h; rw [sg0_k 10 (by omega)] at h; cases h; exact hB.2 25 _ rfl
    | _ + 6, h => cases h
  | k + 4, h => omega
theorem rep0X {D : va_G} {cy : Nat → ClassId} {n : Nat} {K V : Nat → Nat} {ka : Nat} {H : Heap} (hB : Blk D n (ctX4 cy n ++ ctX5 cy (n + 38)) H) : Rep (zX D cy n K V ka) Mx0 N0 H := by
  intro g p e h
  have h : layX (aX n K V ka) cy g (Mx0 g) (N0 g) p = some e := h
  show va_at D vwCl (aX n K V ka g p, e) H
  unfold layX at h
  by_cases h1 : g < 4
  · rw [if_pos h1, show Mx0 g = sg0 from if_pos h1] at h
    exact rep0I hB h1 h
  · rw [if_neg h1, show Mx0 g = fun _ => 0 from if_neg h1] at h
    by_cases h2 : 20 ≤ g ∧ g < 24
    · rw [if_pos h2] at h
      have hg : g = 20 ∨ g = 21 ∨ g = 22 ∨ g = 23 := by omega
      rcases hg with rfl | rfl | rfl | rfl
      · match p, h with
        | 0, h => cases h; exact hB.2 29 _ rfl
        | 1, h => cases h; exact hB.2 30 _ rfl
        | _ + 2, h => cases h
      · match p, h with
        | 0, h => cases h; exact hB.2 31 _ rfl
        | 1, h => cases h; exact hB.2 32 _ rfl
        | _ + 2, h => cases h
      · match p, h with
        | 0, h => cases h; exact hB.2 33 _ rfl
        | 1, h => cases h; exact hB.2 34 _ rfl
        | _ + 2, h => cases h
      · match p, h with
        | 0, h => cases h; exact hB.2 35 _ rfl
        | 1, h => cases h; exact hB.2 36 _ rfl
        | _ + 2, h => cases h
    · rw [if_neg h2] at h
      match g, p, h with
      | 4, 0, h => cases h; exact hB.2 19 _ rfl
      | 5, 0, h => cases h; exact hB.2 26 _ rfl
      | 5, 1, h => cases h; exact hB.2 27 _ rfl
      | 6, 0, h =>
        cases h
        refine ((hB.2 28 (.inl (cy 3, 4, .inr (.inr (.inr (.inr (va_up (va_up (va_up (va_up (fun _ => none) 0 (some (n + 29))) 1 (some (n + 31))) 2 (some (n + 33))) 3 (some (n + 35)))))))) rfl)).trans ?_
        refine congrArg some ?_
        show vp_cell _ _ = vp_cell _ _
        rw [vp_cell_q, vp_cell_q]
        refine arrV_congr4 (fun i hi => ?_)
        match i, hi with
        | 0, _ => rfl
        | 1, _ => rfl
        | 2, _ => rfl
        | 3, _ => rfl
      | 7, 0, h => cases h; exact hB.2 37 _ rfl
      | 8, 0, h => cases h; exact hB.2 0 _ rfl
      | 0, _, _ => exact absurd (by decide) h1
      | 1, _, _ => exact absurd (by decide) h1
      | 2, _, _ => exact absurd (by decide) h1
      | 3, _, _ => exact absurd (by decide) h1
      | 4, _ + 1, h => cases h
      | 5, _ + 2, h => cases h
      | 6, _ + 1, h => cases h
      | 7, _ + 1, h => cases h
      | 8, _ + 1, h => cases h
      | _ + 9, _, h => cases h
theorem rep0M {D : va_G} {cy : Nat → ClassId} {n : Nat} {H : Heap} (hB : Blk D n (ctX4 cy n ++ ctX5 cy (n + 38)) H) : Rep (zM D cy n) Mm0 N0 H := by
  intro g p e h
  have h : layM (aM n) cy g (Mm0 g) (N0 g) p = some e := h
  show va_at D vwCl (aM n g p, e) H
  match g, p, h with
  | 0, 0, h =>
    have h : some (Sum.inl (cy 0, 39, Sum.inl sg0)) = some e := h
    rw [sg0_m] at h; cases h; exact hB.2 39 _ rfl
  | 1, 0, h => cases h; exact hB.2 40 _ rfl
  | 2, 0, h => cases h; exact hB.2 41 _ rfl
  | 3, 0, h => cases h; exact hB.2 42 _ rfl
  | 4, 0, h => cases h; exact hB.2 43 _ rfl
  | 5, 0, h => cases h; exact hB.2 44 _ rfl
  | 6, 0, h => cases h; exact hB.2 38 _ rfl
  | 7, 0, h => cases h; exact hB.2 45 _ rfl
  | 8, 0, h => cases h; exact hB.2 46 _ rfl
  | 9, 0, h => cases h; exact hB.2 47 _ rfl
  | 10, 0, h => cases h; exact hB.2 48 _ rfl
  | 0, _ + 1, h => cases h
  | 1, _ + 1, h => cases h
  | 2, _ + 1, h => cases h
  | 3, _ + 1, h => cases h
  | 4, _ + 1, h => cases h
  | 5, _ + 1, h => cases h
  | 6, _ + 1, h => cases h
  | 7, _ + 1, h => cases h
  | 8, _ + 1, h => cases h
  | 9, _ + 1, h => cases h
  | 10, _ + 1, h => cases h
  | _ + 11, _, h => cases h
