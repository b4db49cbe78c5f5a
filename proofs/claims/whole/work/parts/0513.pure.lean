theorem itS_lt {f : Int32 → Int32} (hf : ∀ c, c < 30 → ∃ c', c' < 30 ∧ f (nI c) = nI c') : ∀ (n c : Nat), c < 30 → ∃ c', c' < 30 ∧ itS f n (nI c) = nI c'
  | 0, c, h => ⟨c, h, rfl⟩
  | n + 1, c, h => by
    obtain ⟨c1, h1, e1⟩ := hf c h
    obtain ⟨c2, h2, e2⟩ := itS_lt hf n c1 h1
    exact ⟨c2, h2, by show itS f n (f (nI c)) = _; rw [e1]; exact e2⟩
theorem itS_eq {f g : Int32 → Int32} (hf : ∀ c, c < 30 → ∃ c', c' < 30 ∧ f (nI c) = nI c') (hg : ∀ c, c < 30 → g (nI c) = f (nI c)) : ∀ (n c : Nat), c < 30 → itS g n (nI c) = itS f n (nI c)
  | 0, c, h => rfl
  | n + 1, c, h => by
    obtain ⟨c1, h1, e1⟩ := hf c h
    show itS g n (g (nI c)) = itS f n (f (nI c))
    rw [hg c h, e1]
    exact itS_eq hf hg n c1 h1
theorem walk_lp {σ : Nat → Int32} {t : Nat} (h : t < 8) (a : Int32) (P : Nat) (hP : P < 100) : ∀ (n i : Nat) (c : Int32), i ≤ P → P - i < n → fX0_walk_25 n (upd σ (8 + 4 * t) c) (nI t) a (nI P) (nI i) = some (upd σ (8 + 4 * t) (itS (fun c => fX0_stepFrom σ c a) (P - i) c)) := by
  intro n
  induction n with
  | zero => intro i c h1 h2; omega
  | succ n ih =>
    intro i c h1 h2
    rw [qX0_walk_25]
    by_cases e : P ≤ i
    · have e2 : P = i := by omega
      subst e2
      rw [if_pos ((nle (by omega) (by omega)).mpr (Nat.le_refl _)), Nat.sub_self]
      rfl
    · rw [if_neg (by rw [nle (by omega) (by omega)]; exact e), if_pos (inbn h (by omega)), ixn (by omega), pk_us, fa_upd_twice, ns1, ih (i + 1) _ (by omega) (by omega)]
      obtain ⟨k, hk⟩ : ∃ k, P - i = k + 1 := ⟨P - i - 1, by omega⟩
      rw [hk, show P - (i + 1) = k by omega, stp_c (τ := σ) (upd_ne (by omega))]
      rfl
theorem walkX {σ : Nat → Int32} {t : Nat} (h : t < 8) : fX0_walk σ (nI t) = some (upd σ (8 + 4 * t) (nc σ t)) := by
  unfold fX0_walk nc
  rw [if_pos (inbn h (by omega)), ixn (by omega)]
  by_cases e : σ (10 + 4 * t) = 0
  · rw [if_pos e, if_pos e, aimX h, paceX h]
    show fX0_walk_25 fu σ (nI t) (aimS σ t) (nI (pcS σ t)) 0 = _
    have q := walk_lp (σ := σ) h (aimS σ t) (pcS σ t) (by have := pcS_le σ t; omega) fu 0 (σ (8 + 4 * t)) (by omega) (by have := pcS_le σ t; show _ < 200; omega)
    rw [fa_upd_same rfl] at q
    exact q
  · rw [if_neg e, if_neg e, fa_upd_same rfl]
theorem goes_lp {σ : Nat → Int32} {t : Nat} (h : t < 8) (a : Int32) : ∀ (n P : Nat) (c : Int32), P < n → P < 100 → fX5_goes_12 n (upd σ (8 + 4 * t) c) (nI t) a (nI P) = some (upd σ (8 + 4 * t) (itS (fun c => fX5_nearer σ c a) P c)) := by
  intro n
  induction n with
  | zero => intro P c h1; omega
  | succ n ih =>
    intro P c h1 h2
    rw [qX5_goes_12]
    match P, h1, h2 with
    | 0, _, _ => rw [if_pos (by decide)]; rfl
    | k + 1, h1, h2 =>
      rw [if_neg (by rw [show (0 : Int32) = nI 0 from rfl, nle (by omega) (by omega)]; omega), its1 h, bind_some', spot1, if_pos (inbn (by omega) (by omega)), ixn (by omega), pk_us, fa_upd_twice, pk_m1, ih k _ (by omega) (by omega), near_c (τ := σ) (upd_ne (by omega))]
      rfl
theorem goesM {σ : Nat → Int32} {t : Nat} (h : t < 8) (hc : ∃ c, c < 30 ∧ σ (8 + 4 * t) = nI c) (ha : ∃ a, a < 30 ∧ aimS σ t = nI a) : fX5_goes σ (nI t) = some (upd σ (8 + 4 * t) (itS (fun c => fX0_stepFrom σ c (aimS σ t)) (pcS σ t) (σ (8 + 4 * t)))) := by
  unfold fX5_goes
  rw [aimM h, paceM h]
  show fX5_goes_12 fu σ (nI t) (aimS σ t) (nI (pcS σ t)) = _
  have q := goes_lp (σ := σ) h (aimS σ t) fu (pcS σ t) (σ (8 + 4 * t)) (by have := pcS_le σ t; show _ < 200; omega) (by have := pcS_le σ t; omega)
  rw [fa_upd_same rfl] at q
  obtain ⟨c, hc, ec⟩ := hc
  obtain ⟨a, ha, ea⟩ := ha
  have q2 : itS (fun c => fX5_nearer σ c (nI a)) (pcS σ t) (nI c) = itS (fun c => fX0_stepFrom σ c (nI a)) (pcS σ t) (nI c) := itS_eq (f := fun c => fX0_stepFrom σ c (nI a)) (g := fun c => fX5_nearer σ c (nI a)) (fun c h => step_lt σ h ha) (fun c h => step_eq σ h ha) _ c hc
  rw [q, ea, ec]
  exact congrArg (fun z => some (upd σ (8 + 4 * t) z)) q2
theorem aimS_lt {σ : Nat → Int32} (h : Wf σ) {t : Nat} (ht : t < sz σ) : ∃ a, a < 30 ∧ aimS σ t = nI a := by
  have h3 := h.2.2.1 3 (by omega) (by omega)
  have h4 := h.2.2.1 4 (by omega) (by omega)
  have h5 := h.2.2.1 5 (by omega) (by omega)
  have hc := (h.2.2.2 t ht).2.1
  unfold aimS fX0_aimOfLaw
  repeat' split
  all_goals assumption
theorem nc_lt {σ : Nat → Int32} (h : Wf σ) {t : Nat} (ht : t < sz σ) : ∃ c, c < 30 ∧ nc σ t = nI c := by
  obtain ⟨a, ha, ea⟩ := aimS_lt h ht
  obtain ⟨c, hc, ec⟩ := (h.2.2.2 t ht).2.1
  unfold nc
  split
  · rw [ea, ec]
    exact itS_lt (f := fun c => fX0_stepFrom σ c (nI a)) (fun c h => step_lt σ h ha) _ c hc
  · exact ⟨c, hc, ec⟩
/-- what a going rests on -/
theorem nc_c {σ τ : Nat → Int32} {t : Nat} (h0 : σ 0 = τ 0) (hg : ∀ k, 2 ≤ k → k < 7 → σ k = τ k) (h7 : σ (7 + 4 * t) = τ (7 + 4 * t)) (h8 : σ (8 + 4 * t) = τ (8 + 4 * t)) (h10 : σ (10 + 4 * t) = τ (10 + 4 * t)) : nc σ t = nc τ t := by
  have e1 : aimS σ t = aimS τ t := by
    unfold aimS fX0_aimOfLaw fX0_rainsAt fX0_clock
    rw [h0, h7, h8, hg 3 (by omega) (by omega), hg 4 (by omega) (by omega), hg 5 (by omega) (by omega), hg 6 (by omega) (by omega)]
  have e2 : pcS σ t = pcS τ t := by
    unfold pcS fX0_clock
    rw [h0, h7]
  unfold nc
  rw [e1, e2, h8, h10, show (fun c => fX0_stepFrom σ c (aimS τ t)) = (fun c => fX0_stepFrom τ c (aimS τ t)) from funext fun c => stp_c (hg 2 (by omega) (by omega)) c _]
