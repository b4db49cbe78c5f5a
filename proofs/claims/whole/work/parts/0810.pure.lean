/-! island: numbers and items -/
def G5 (M M' : Mi) : Prop := (∀ g, g ≠ 5 → M' g = M g) ∧ M' 5 0 = M 5 0 ∧ ∀ k, M' 5 (10 + k) = M 5 (10 + k)
def G6 (M M' : Mi) : Prop := (∀ g, g ≠ 6 → M' g = M g) ∧ M' 6 0 = M 6 0 ∧ M' 6 2 = M 6 2
def FX (M M' : Mi) : Prop := (∀ g, g ≠ 1 → g ≠ 5 → M' g = M g) ∧ M' 5 0 = M 5 0 ∧ ∀ k, M' 5 (10 + k) = M 5 (10 + k)
def FM (M M' : Mi) : Prop := (∀ g, g ≠ 0 → g ≠ 6 → M' g = M g) ∧ M' 6 0 = M 6 0 ∧ M' 6 2 = M 6 2
theorem F5.g {M M' : Mi} (h : F5 M M') : G5 M M' := ⟨h.1, h.2 0 (by omega), fun k => h.2 _ (by omega)⟩
theorem F6.g {M M' : Mi} (h : F6 M M') : G6 M M' := ⟨h.1, h.2 0 (by omega) (by omega), h.2 2 (by omega) (by omega)⟩
theorem G5.tr {A B C : Mi} (h : G5 A B) (g : G5 B C) : G5 A C := ⟨fun r a => (g.1 r a).trans (h.1 r a), g.2.1.trans h.2.1, fun k => (g.2.2 k).trans (h.2.2 k)⟩
theorem G6.tr {A B C : Mi} (h : G6 A B) (g : G6 B C) : G6 A C := ⟨fun r a => (g.1 r a).trans (h.1 r a), g.2.1.trans h.2.1, g.2.2.trans h.2.2⟩
theorem FX.tr {A B C : Mi} (h : FX A B) (g : FX B C) : FX A C := ⟨fun r a c => (g.1 r a c).trans (h.1 r a c), g.2.1.trans h.2.1, fun k => (g.2.2 k).trans (h.2.2 k)⟩
theorem FM.tr {A B C : Mi} (h : FM A B) (g : FM B C) : FM A C := ⟨fun r a c => (g.1 r a c).trans (h.1 r a c), g.2.1.trans h.2.1, g.2.2.trans h.2.2⟩
theorem FX.rfl' (M : Mi) : FX M M := ⟨fun _ _ _ => rfl, rfl, fun _ => rfl⟩
theorem FM.rfl' (M : Mi) : FM M M := ⟨fun _ _ _ => rfl, rfl, rfl⟩
theorem G5.x {M M' : Mi} (h : G5 M M') : FX M M' := ⟨fun g _ a => h.1 g a, h.2⟩
theorem G6.x {M M' : Mi} (h : G6 M M') : FM M M' := ⟨fun g _ a => h.1 g a, h.2⟩
theorem FX_s (M : Mi) (σ : Nat → Int32) : FX M (sR M 1 σ) := ⟨fun g a _ => sR_ne _ _ a, by rw [sR_ne _ _ (by omega)], fun k => by rw [sR_ne _ _ (by omega)]⟩
theorem FM_s (M : Mi) (σ : Nat → Int32) : FM M (sR M 0 σ) := ⟨fun g a _ => sR_ne _ _ a, by rw [sR_ne _ _ (by omega)], by rw [sR_ne _ _ (by omega)]⟩
theorem G5_w (M : Mi) {k : Nat} (v : Int32) (h0 : k ≠ 0) (h5 : k < 10) : G5 M (wM M 5 k v) := ⟨fun g hg => wM_ne _ _ _ hg, by rw [wM_at, upd_ne (by omega)], fun j => by rw [wM_at, upd_ne (by omega)]⟩
theorem G6_w (M : Mi) {k : Nat} (v : Int32) (h0 : k ≠ 0) (h2 : k ≠ 2) : G6 M (wM M 6 k v) := ⟨fun g hg => wM_ne _ _ _ hg, by rw [wM_at, upd_ne (by omega)], by rw [wM_at, upd_ne (by omega)]⟩
theorem Tx.g {b : Nat → Nat} {n : Nat} {M M' : Mi} (h : Tx b n M) (hf : G5 M M') : Tx b n M' := ⟨h.1, hf.2.1.trans h.2.1, fun k hk => ⟨(hf.2.2 k).trans (h.2.2 k hk).1, (h.2.2 k hk).2⟩⟩
theorem Tm.g {b : Nat → Nat} {n : Nat} {M M' : Mi} (h : Tm b n M) (hf : G6 M M') : Tm b n M' := ⟨h.1, hf.2.2.trans h.2.1, fun k hk => ⟨by rw [hf.1 5 (by omega)]; exact (h.2.2 k hk).1, (h.2.2 k hk).2⟩⟩
theorem wM_id {M : Mi} {r k : Nat} {v : Int32} (h : M r k = v) : wM M r k v = M := by
  unfold wM
  rw [fa_upd_same h]
  exact sR_self M r
def Sj (b : Nat → Nat) (n : Nat) (Mx Mm : Mi) (a : Nat) : Prop := Tx b n Mx ∧ Tm b n Mm ∧ Lx b n Mx a ∧ Lm b n Mm a ∧ Mm 6 6 = 0
def Wr (b : Nat → Nat) (n : Nat) (Mx Mm : Mi) : Prop := Tm b n Mm ∧ ∃ a, Mx 5 2 = nI a ∧ Lm b n Mm a ∧ Mm 6 6 = 1
def tN (b : Nat → Nat) (n a : Nat) : Nat := tA b n (tE b n a)
theorem tN_b {b : Nat → Nat} {n a : Nat} (h : a ≤ n) : tN b n a ≤ n ∧ (a < n → a < tN b n a) := by
  have h1 := tE_b (b := b) h
  have h2 := tA_b (b := b) h1.2.1
  unfold tN
  exact ⟨h2.2, fun q => by have := h1.2.2 q; omega⟩
theorem adv {b : Nat → Nat} {n : Nat} {Mx Mm : Mi} {a : Nat} (h : Sj b n Mx Mm a) : ∃ Mx' Mm', fX3_nextToken Mx = some Mx' ∧ fX5_token Mm = some Mm' ∧ F5 Mx Mx' ∧ F6 Mm Mm' ∧ Sj b n Mx' Mm' (tN b n a) := by
  obtain ⟨h1, h2, h3, h4, h5⟩ := h
  have hb := tE_b (b := b) h3.1
  obtain ⟨Mx', q1, q2, q3⟩ := nxX h1 hb.2.1 h3.2.2.1
  obtain ⟨Mm', r1, r2, r3⟩ := tkM h2 hb.2.1 h4.2.2
  exact ⟨Mx', Mm', q1, r1, q2, r2, h1.f q2, h2.f r2, q3, r3, (r2.2 6 (by omega) (by omega)).trans h5⟩
theorem w_1 {M M' : Mi} (h6 : M 6 6 = 0) (e : fX5_token M = some M') : fX5_wants M 1 = some M' := by
  unfold fX5_wants fX5_wants_17
  rw [if_pos h6, if_neg n10, if_pos (Or.inl rfl), if_pos rfl, wM_id h6, e]; rfl
theorem w_0 (M : Mi) : fX5_wants M 0 = some (wM M 6 6 1) := by
  unfold fX5_wants fX5_wants_12 fX5_wants_17
  rw [if_pos (show (1 : Int32) = 0 ∨ (1 : Int32) = 1 from Or.inr rfl), if_neg n10]
  by_cases e : M 6 6 = 0
  · rw [if_pos e, if_pos z00]
  · rw [if_neg e]
theorem w_w {M : Mi} (h6 : M 6 6 = 1) (x : Int32) : fX5_wants M x = some M := by
  unfold fX5_wants fX5_wants_12
  rw [if_neg (by rw [h6]; exact n10)]
  unfold fX5_wants_17
  rw [if_pos (Or.inr rfl), if_neg n10, wM_id h6]
theorem n_w {M : Mi} (h6 : M 6 6 = 1) (x y : Int32) : fX5_number M x y = some M := by
  unfold fX5_number
  rw [if_neg (by rw [h6]; exact n10)]
theorem c_1 {M M' : Mi} (e : fX5_number M 0 29 = some M') : fX5_cellHere M = some M' := by
  unfold fX5_cellHere
  rw [e]; rfl
theorem Sj.wr {b : Nat → Nat} {n : Nat} {Mx Mm : Mi} {a : Nat} (h : Sj b n Mx Mm a) {M' : Mi} (hg : G6 Mm M') (h3 : M' 6 3 = Mm 6 3) (h4 : M' 6 4 = Mm 6 4) (h6 : M' 6 6 = 1) : Wr b n Mx M' :=
  ⟨h.2.1.g hg, a, h.2.2.1.2.1, ⟨h.2.2.2.1.1, h3.trans h.2.2.2.1.2.1, h4.trans h.2.2.2.1.2.2⟩, h6⟩
theorem Sj.w0 {b : Nat → Nat} {n : Nat} {Mx Mm : Mi} {a : Nat} (h : Sj b n Mx Mm a) : Wr b n Mx (wM Mm 6 6 1) :=
  h.wr (G6_w _ _ (by omega) (by omega)) (by rw [wM_at, upd_ne (by omega)]) (by rw [wM_at, upd_ne (by omega)]) (by rw [wM_at, pk_us])
theorem nb29 {b : Nat → Nat} {n : Nat} {M : Mi} (h : Tm b n M) {e : Nat} (he : e ≤ n) (h4 : M 6 4 = nI e) {x y : Int32} : ∀ (f k w : Nat), k ≤ e → (∀ i, k ≤ i → i < e → dg' (b i) = true) → e - k < f → w ≤ 9999 → fX5_number_29 f M x y 1 (nI w) (nI k) = fX5_number_79 M x y 1 (nI (fo (gM b) (e - k) k w)) := by
  have hn := h.1
  intro f
  induction f with
  | zero => intro k w _ _ q; omega
  | succ f ih =>
    intro k w hk hd hf hw
    rw [qX5_number_29, h4]
    by_cases q : e ≤ k
    · rw [if_pos ((nle (by omega) (by omega)).mpr q), show e - k = 0 by omega]; rfl
    · have hb := h.2.2 k (by omega)
      have hc := dg_r (hd k (by omega) (by omega))
      have ef : fo (gM b) (e - k) k w = fo (gM b) (e - (k + 1)) (k + 1) (gM b w k) := by rw [show e - k = (e - (k + 1)) + 1 by omega]; rfl
      have hg : gM b w k ≤ 9999 := by
        unfold gM
        by_cases z : 999 < w
        · rw [if_pos z]; exact hw
        · rw [if_neg z]; omega
      have nxt := ih (k + 1) (gM b w k) (by omega) (fun i h1 h2 => hd i (by omega) h2) (by omega) hg
      rw [if_neg (fun z => q ((nle (by omega) (by omega)).mp z)), if_neg n10, if_pos (inbn (show k < 120 by omega) (by omega)), ixn (show k < 2 ^ 31 by omega), hb.1, ns1, ef, ← nxt]
      unfold gM
      by_cases z : 999 < w
      · rw [if_pos z, if_neg (show ¬ nI w ≤ 999 from fun p => by have := (nle (b := 999) (by omega) (by omega)).mp p; omega)]
      · rw [if_neg z, if_pos (show nI w ≤ 999 from (nle (b := 999) (by omega) (by omega)).mpr (by omega)), show (10 : Int32) = nI 10 from rfl, n_mul, nI_add, show (48 : Int32) = nI 48 from rfl, n_sub (by omega)]
theorem n79_0 {M : Mi} (x y w : Int32) : fX5_number_79 M x y 0 w = some (wM (wM M 6 5 w) 6 6 1) := by
  unfold fX5_number_79 fX5_number_107 fX5_number_108
  rw [if_pos z00, w_0]; rfl
theorem num {b : Nat → Nat} {n : Nat} {Mx Mm : Mi} {a : Nat} (h : Sj b n Mx Mm a) {lo hi : Nat} (hl : lo ≤ 999) (hh : hi ≤ 999) : (∃ Mm', fX3_takesNumber Mx (nI lo) (nI hi) = some (0, Mx) ∧ fX5_number Mm (nI lo) (nI hi) = some Mm' ∧ G6 Mm Mm' ∧ Wr b n Mx Mm') ∨ ∃ v Mx' Mm', lo ≤ v ∧ v ≤ hi ∧ a < n ∧ fX3_takesNumber Mx (nI lo) (nI hi) = some (1, Mx') ∧ fX5_number Mm (nI lo) (nI hi) = some Mm' ∧ G5 Mx Mx' ∧ G6 Mm Mm' ∧ Sj b n Mx' Mm' (tN b n a) ∧ Mx' 5 5 = nI v ∧ Mm' 6 5 = nI v := by
  obtain ⟨h1, h2, h3, h4, h5⟩ := h
  have hS : Sj b n Mx Mm a := ⟨h1, h2, h3, h4, h5⟩
  have hn := h1.1
  have hb := tE_b (b := b) h3.1
  have hkb := kd_b (b := b) (n := n) (a := a)
  have wrong : ∀ w : Int32, Wr b n Mx (wM (wM Mm 6 5 w) 6 6 1) ∧ G6 Mm (wM (wM Mm 6 5 w) 6 6 1) := fun w => by
    have g : G6 Mm (wM (wM Mm 6 5 w) 6 6 1) := (G6_w Mm (k := 5) w (by omega) (by omega)).tr (G6_w _ (k := 6) 1 (by omega) (by omega))
    exact ⟨hS.wr g (by rw [wM_at, upd_ne (by omega), wM_at, upd_ne (by omega)]) (by rw [wM_at, upd_ne (by omega), wM_at, upd_ne (by omega)]) (by rw [wM_at, pk_us]), g⟩
  unfold fX3_takesNumber fX5_number
  rw [if_pos h5, h4.2.1, byteM h2 h4.1, bind_some', dgB h2, h3.2.2.2.1]
  by_cases e : a < n ∧ dg' (b a) = true
  · rw [if_pos e, if_pos (show nI (kd b n a) = 2 by rw [kd_2.mpr e]; rfl), h3.2.2.2.2 (kd_2.mpr e)]
    have hd : ∀ i, a ≤ i → i < tE b n a → dg' (b i) = true := fun i h1 h2 => tE_d e.1 e.2 h1 h2
    have hr := nr_lp (b := b) (tE b n a - a) a 0 0 (fun i h1 h2 => hd i h1 (by omega)) (Or.inl ⟨rfl, by omega⟩)
    have e29 : fX5_number_29 fu Mm (nI lo) (nI hi) 1 0 (nI a) = fX5_number_79 Mm (nI lo) (nI hi) 1 (nI (fo (gM b) (tE b n a - a) a 0)) := nb29 h2 hb.2.1 h4.2.2 fu a 0 hb.1 hd (by show _ < 200; omega) (by omega)
    rw [e29]
    generalize hv : fo (gX b) (tE b n a - a) a 0 = v at hr ⊢
    generalize hw : fo (gM b) (tE b n a - a) a 0 = w at hr ⊢
    have hvb : v ≤ 1000 ∧ w ≤ 9999 := by unfold nr at hr; omega
    unfold fX5_number_79
    rw [if_neg n10, in_g]
    by_cases c1 : v < lo
    · have c1' : w < lo := by unfold nr at hr; omega
      left
      rw [if_pos ((nlt (by omega) (by omega)).mpr c1), if_pos ((nlt (by omega) (by omega)).mpr c1'), if_pos z00]
      unfold fX5_number_107 fX5_number_108
      rw [w_0]
      exact ⟨_, rfl, rfl, (wrong _).2, (wrong _).1⟩
    · have c1' : ¬ w < lo := by unfold nr at hr; omega
      rw [if_neg (fun z => c1 ((nlt (by omega) (by omega)).mp z)), if_neg (fun z => c1' ((nlt (by omega) (by omega)).mp z))]
      by_cases c2 : v ≤ hi
      · have c2' : ¬ hi < w := by unfold nr at hr; omega
        have evw : v = w := by unfold nr at hr; omega
        subst evw
        right
        rw [if_pos ((nle (by omega) (by omega)).mpr c2), if_neg (fun z => c2' ((nlt (by omega) (by omega)).mp z)), if_neg n10]
        have gx := G5_w Mx (k := 5) (nI v) (by omega) (by omega)
        have gm := G6_w Mm (k := 5) (nI v) (by omega) (by omega)
        obtain ⟨Mx', q1, q2, q3⟩ := nxX (h1.g gx) hb.2.1 (by rw [wM_at, upd_ne (by omega)]; exact h3.2.2.1)
        obtain ⟨Mm', r1, r2, r3⟩ := tkM (h2.g gm) hb.2.1 (by rw [wM_at, upd_ne (by omega)]; exact h4.2.2)
        have h66 : (wM Mm 6 5 (nI v)) 6 6 = 0 := by rw [wM_at, upd_ne (by omega)]; exact h5
        unfold fX5_number_108
        rw [q1, bind_some', w_1 h66 r1]
        refine ⟨v, Mx', Mm', by omega, c2, e.1, rfl, rfl, gx.tr q2.g, gm.tr r2.g, ⟨(h1.g gx).f q2, (h2.g gm).f r2, q3, r3, (r2.2 6 (by omega) (by omega)).trans h66⟩, ?_, ?_⟩
        · rw [q2.2 5 (by omega), wM_at, pk_us]
        · rw [r2.2 5 (by omega) (by omega), wM_at, pk_us]
      · have c2' : hi < w := by unfold nr at hr; omega
        left
        rw [if_neg (fun z => c2 ((nle (by omega) (by omega)).mp z)), if_pos ((nlt (by omega) (by omega)).mpr c2'), if_pos z00]
        unfold fX5_number_107 fX5_number_108
        rw [w_0]
        exact ⟨_, rfl, rfl, (wrong _).2, (wrong _).1⟩
  · left
    rw [if_neg e, if_neg (show ¬ nI (kd b n a) = 2 from fun z => e (kd_2.mp ((neq (b := 2) (by omega) (by omega)).mp z)))]
    have e29 : fX5_number_29 (199 + 1) Mm (nI lo) (nI hi) 0 0 (nI a) = some (wM (wM Mm 6 5 0) 6 6 1) := by
      rw [qX5_number_29, if_pos z00, n79_0]
      by_cases z : Mm 6 4 ≤ nI a
      · rw [if_pos z]
      · rw [if_neg z]
    exact ⟨_, rfl, e29, (wrong _).2, (wrong _).1⟩
theorem Sj.s {b : Nat → Nat} {n : Nat} {Mx Mm : Mi} {a : Nat} (h : Sj b n Mx Mm a) (σ τ : Nat → Int32) : Sj b n (sR Mx 1 σ) (sR Mm 0 τ) a := by
  have e5 : sR Mx 1 σ 5 = Mx 5 := sR_ne _ _ (by omega)
  have e6 : sR Mm 0 τ 6 = Mm 6 := sR_ne _ _ (by omega)
  have e7 : sR Mm 0 τ 5 = Mm 5 := sR_ne _ _ (by omega)
  unfold Sj Tx Tm Lx Lm at *
  rw [e5, e6, e7]
  exact h
def Rs (b : Nat → Nat) (n : Nat) (Mx0 Mm0 : Mi) (a0 : Nat) (X : Option (Int32 × Mi)) (Y : Option Mi) : Prop := ∃ r Mx Mm, X = some (r, Mx) ∧ Y = some Mm ∧ FX Mx0 Mx ∧ FM Mm0 Mm ∧ ((r = 0 ∧ Wr b n Mx Mm) ∨ (r = 1 ∧ ∃ a, a0 < a ∧ Sj b n Mx Mm a ∧ Eqv (Mx 1) (Mm 0)))
theorem it_fence {b : Nat → Nat} {n : Nat} {Mx Mm : Mi} {a : Nat} (h : Sj b n Mx Mm a) (ha : a < n) (hE : Eqv (Mx 1) (Mm 0)) {y : Int32} (hy : y = 0 ∨ y = 1) : Rs b n Mx Mm a (fX3_tellsFence Mx y) (fX5_fenceItem Mm y) := by
  obtain ⟨Mx1, Mm1, q1, r1, q2, r2, h1⟩ := adv h
  have t1 := tN_b (b := b) h.2.2.1.1
  have t2 := tN_b (b := b) h1.2.2.1.1
  have t3 := t1.2 ha
  unfold fX3_tellsFence fX5_fenceItem
  rw [q1, bind_some', w_1 h.2.2.2.2 r1, bind_some']
  rcases num h1 (lo := 0) (hi := 29) (by omega) (by omega) with ⟨Mm2, p1, p2, p3, p4⟩ | ⟨v, Mx2, Mm2, _, hv, hk, p1, p2, p3, p4, p5, p6, p7⟩
  · have p1' : fX3_takesNumber Mx1 0 29 = some (0, Mx1) := p1
    rw [p1', bind_some', c_1 p2, bind_some']
    have p4' := p4
    obtain ⟨_, a', s1, s2, s3⟩ := p4'
    dsimp only
    rw [if_pos z00, if_neg (by rw [s3]; exact n10)]
    exact ⟨_, _, _, rfl, rfl, q2.g.x, (r2.g.tr p3).x, Or.inl ⟨rfl, p4⟩⟩
  · have p1' : fX3_takesNumber Mx1 0 29 = some (1, Mx2) := p1
    have g1 := q2.g.tr p3
    have g2 := r2.g.tr p4
    have hE2 : Eqv (Mx2 1) (Mm2 0) := by rw [g1.1 1 (by omega), g2.1 0 (by omega)]; exact hE
    obtain ⟨σ, τ, e1, e2, e3, _⟩ := fences_c hE2 (nI v) hy
    rw [p1', bind_some', c_1 p2, bind_some']
    dsimp only
    rw [if_neg n10, if_pos p5.2.2.2.2, p6, p7, e1, e2, bind_some', bind_some']
    refine ⟨_, _, _, rfl, rfl, g1.x.tr (FX_s _ _), g2.x.tr (FM_s _ _), Or.inr ⟨rfl, _, ?_, p5.s σ τ, ?_⟩⟩
    · have := t2.2 hk; omega
    · rw [sR_same, sR_same]; exact e3
theorem it_spot {b : Nat → Nat} {n : Nat} {Mx Mm : Mi} {a : Nat} (h : Sj b n Mx Mm a) (ha : a < n) (hE : Eqv (Mx 1) (Mm 0)) {s : Nat} (hs : s < 3) : Rs b n Mx Mm a (fX3_tellsSpot Mx (nI s)) (fX5_placeItem Mm (nI s)) := by
  obtain ⟨Mx1, Mm1, q1, r1, q2, r2, h1⟩ := adv h
  have t1 := tN_b (b := b) h.2.2.1.1
  have t2 := tN_b (b := b) h1.2.2.1.1
  have t3 := t1.2 ha
  unfold fX3_tellsSpot fX5_placeItem fX5_placeItem_10
  rw [q1, bind_some', if_neg (nI_pos (by omega)), w_1 h.2.2.2.2 r1, bind_some']
  rcases num h1 (lo := 0) (hi := 29) (by omega) (by omega) with ⟨Mm2, p1, p2, p3, p4⟩ | ⟨v, Mx2, Mm2, _, hv, hk, p1, p2, p3, p4, p5, p6, p7⟩
  · have p1' : fX3_takesNumber Mx1 0 29 = some (0, Mx1) := p1
    rw [p1', bind_some', c_1 p2, bind_some']
    have p4' := p4
    obtain ⟨_, a', s1, s2, s3⟩ := p4'
    dsimp only
    rw [if_pos z00, if_neg (by rw [s3]; exact n10)]
    exact ⟨_, _, _, rfl, rfl, q2.g.x, (r2.g.tr p3).x, Or.inl ⟨rfl, p4⟩⟩
  · have p1' : fX3_takesNumber Mx1 0 29 = some (1, Mx2) := p1
    have g1 := q2.g.tr p3
    have g2 := r2.g.tr p4
    have hE2 : Eqv (Mx2 1) (Mm2 0) := by rw [g1.1 1 (by omega), g2.1 0 (by omega)]; exact hE
    have e3 := eqv_upd hE2 (k := 3 + s) (v := nI v) (by omega) (vl_sp (by omega) ⟨v, by omega, rfl⟩)
    rw [p1', bind_some', c_1 p2, bind_some']
    dsimp only
    rw [if_neg n10, if_pos p5.2.2.2.2, p6, p7, if_pos (inbn hs (by omega)), show (3 : Int32) + nI s = nI (3 + s) from nI_add 3 s, if_pos (inbn (show 3 + s < 39 by omega) (by omega)), ixn (show s < 2 ^ 31 by omega), ixn (show 3 + s < 2 ^ 31 by omega)]
    refine ⟨_, _, _, rfl, rfl, g1.x.tr (FX_s _ _), g2.x.tr (FM_s _ _), Or.inr ⟨rfl, _, ?_, p5.s _ _, ?_⟩⟩
    · have := t2.2 hk; omega
    · rw [wM_at, wM_at]; exact e3
theorem rain_lp {b : Nat → Nat} {n a l : Nat} (hl : l < 24) : ∀ (f k : Nat) (Mx Mm : Mi), Sj b n Mx Mm a → Eqv (Mx 1) (Mm 0) → Mx 5 5 = nI l → k ≤ l + 1 → l + 1 - k < f → ∃ Mx' Mm', fX3_tellsRain_48 f Mx (nI k) = some (1, Mx') ∧ fX5_rainItem_49 f Mm (nI l) (nI k) = some Mm' ∧ FX Mx Mx' ∧ FM Mm Mm' ∧ Sj b n Mx' Mm' a ∧ Eqv (Mx' 1) (Mm' 0) := by
  intro f
  induction f with
  | zero => intro k Mx Mm _ _ _ _ q; omega
  | succ f ih =>
    intro k Mx Mm h hE h5 hk hf
    rw [qX3_tellsRain_48, qX5_rainItem_49, h5]
    by_cases e : l < k
    · have c1 : nI l < nI k := (nlt (by omega) (by omega)).mpr e
      rw [if_pos c1, if_pos c1]
      exact ⟨_, _, rfl, rfl, FX.rfl' _, FM.rfl' _, h, hE⟩
    · have c1 : ¬ nI l < nI k := fun z => e ((nlt (by omega) (by omega)).mp z)
      rw [if_neg c1, if_neg c1, if_pos h.2.2.2.2, ns1, hE.e (k := 6) (by omega)]
      have e3 := eqv_upd hE (k := 6) (v := Mx 1 6 ||| ((1 : Int32) <<< (nI k &&& 31))) (by omega) (vl_o (by omega))
      obtain ⟨Mx', Mm', p1, p2, p3, p4, p5, p6⟩ := ih (k + 1) (wM Mx 1 6 (Mx 1 6 ||| ((1 : Int32) <<< (nI k &&& 31)))) (wM Mm 0 6 (Mx 1 6 ||| ((1 : Int32) <<< (nI k &&& 31)))) (h.s _ _) (by rw [wM_at, wM_at]; exact e3) (by rw [wM_ne _ _ _ (by omega)]; exact h5) (by omega) (by omega)
      exact ⟨Mx', Mm', p1, p2, (FX_s _ _).tr p3, (FM_s _ _).tr p4, p5, p6⟩
theorem rain_w {M : Mi} (h6 : M 6 6 = 1) {f : Nat} (x y : Int32) : fX5_rainItem_49 (f + 1) M x y = some M := by
  rw [qX5_rainItem_49, if_neg (show ¬ M 6 6 = 0 by rw [h6]; exact n10)]
  by_cases e : x < y
  · rw [if_pos e]
  · rw [if_neg e]
theorem lw {b : Nat → Nat} {n a w K : Nat} (hw : w < 14) (hK : Kw w = K) : lN (Wn b n a) = lN K ↔ Wn b n a = Kw w := by
  have := Kw_c w hw
  rw [l_eq Wn_b (by omega), hK]
theorem it_rain {b : Nat → Nat} {n : Nat} {Mx Mm : Mi} {a : Nat} (h : Sj b n Mx Mm a) (ha : a < n) (hE : Eqv (Mx 1) (Mm 0)) : Rs b n Mx Mm a (fX3_tellsRain Mx) (fX5_rainItem Mm) := by
  obtain ⟨Mx1, Mm1, q1, r1, q2, r2, h1⟩ := adv h
  have t1 := tN_b (b := b) h.2.2.1.1
  have t2 := tN_b (b := b) h1.2.2.1.1
  have t3 := t1.2 ha
  unfold fX3_tellsRain fX5_rainItem
  rw [q1, bind_some', w_1 h.2.2.2.2 r1, bind_some']
  rcases num h1 (lo := 0) (hi := 23) (by omega) (by omega) with ⟨Mm2, p1, p2, p3, p4⟩ | ⟨v, Mx2, Mm2, _, hv, hk, p1, p2, p3, p4, p5, p6, p7⟩
  · have p1' : fX3_takesNumber Mx1 0 23 = some (0, Mx1) := p1
    have p2' : fX5_number Mm1 0 23 = some Mm2 := p2
    obtain ⟨s0, a', s1, s2, s3⟩ := p4
    rw [p1', bind_some', p2', bind_some', wordW s0 s2 (by rw [s3]; exact n10), bind_some']
    dsimp only
    rw [if_pos z00, if_neg (show ¬ (0 : Int64) = 655 by decide), show fX5_rainItem_49 fu Mm2 (Mm2 6 5) (Mm2 6 5) = some Mm2 from rain_w s3 (f := 199) _ _]
    exact ⟨_, _, _, rfl, rfl, q2.g.x, (r2.g.tr p3).x, Or.inl ⟨rfl, s0, a', s1, s2, s3⟩⟩
  · have p1' : fX3_takesNumber Mx1 0 23 = some (1, Mx2) := p1
    have p2' : fX5_number Mm1 0 23 = some Mm2 := p2
    have g1 := q2.g.tr p3
    have g2 := r2.g.tr p4
    have hE2 : Eqv (Mx2 1) (Mm2 0) := by rw [g1.1 1 (by omega), g2.1 0 (by omega)]; exact hE
    have u2 := t2.2 hk
    have l10 : lN (Wn b n (tN b n (tN b n a))) = (655 : Int64) ↔ Wn b n (tN b n (tN b n a)) = Kw 10 := lw (K := 655) (by omega) (by decide +kernel)
    rw [p1', bind_some', p2', bind_some', wordM p5.2.1 p5.2.2.2.1 p5.2.2.2.2, bind_some']
    dsimp only
    rw [if_neg n10, isW p5.1 (w := 10) (by omega) p5.2.2.1, bind_some', p6, p7]
    by_cases e : Wn b n (tN b n (tN b n a)) = Kw 10
    · rw [if_pos e, if_neg n10, if_pos (l10.mpr e)]
      obtain ⟨Mx3, Mm3, q3, r3, q4, r4, h3⟩ := adv p5
      have t4 := tN_b (b := b) p5.2.2.1.1
      have t5 := tN_b (b := b) h3.2.2.1.1
      have lt3 : tN b n (tN b n a) < n := by
        refine Decidable.byContradiction (fun z => ?_)
        have w0 : Wn b n (tN b n (tN b n a)) = 0 := by unfold Wn; rw [if_neg (fun y => z y.1)]
        have := Kw_c 10 (by omega)
        omega
      have t6 := t4.2 lt3
      rw [q3, bind_some', w_1 p5.2.2.2.2 r3, bind_some']
      rcases num h3 (lo := v) (hi := 23) (by omega) (by omega) with ⟨Mm4, o1, o2, o3, o4⟩ | ⟨v2, Mx4, Mm4, hv1, hv2, hk2, o1, o2, o3, o4, o5, o6, o7⟩
      · have o1' : fX3_takesNumber Mx3 (nI v) 23 = some (0, Mx3) := o1
        have o2' : fX5_number Mm3 (nI v) 23 = some Mm4 := o2
        obtain ⟨s0, a', s1, s2, s3⟩ := o4
        rw [o1', bind_some', o2', bind_some']
        dsimp only
        rw [if_pos z00, show fX5_rainItem_49 fu Mm4 (Mm4 6 5) (nI v) = some Mm4 from rain_w s3 (f := 199) _ _]
        exact ⟨_, _, _, rfl, rfl, (g1.tr q4.g).x, ((g2.tr r4.g).tr o3).x, Or.inl ⟨rfl, s0, a', s1, s2, s3⟩⟩
      · have o1' : fX3_takesNumber Mx3 (nI v) 23 = some (1, Mx4) := o1
        have o2' : fX5_number Mm3 (nI v) 23 = some Mm4 := o2
        have g3 := (g1.tr q4.g).tr o3
        have g4 := (g2.tr r4.g).tr o4
        have hE4 : Eqv (Mx4 1) (Mm4 0) := by rw [g3.1 1 (by omega), g4.1 0 (by omega)]; exact hE
        rw [o1', bind_some', o2', bind_some']
        dsimp only
        rw [if_neg n10, o7]
        obtain ⟨Mx5, Mm5, y1, y2, y3, y4, y5, y6⟩ := rain_lp (l := v2) (by omega) fu v Mx4 Mm4 o5 hE4 o6 (by omega) (by show _ < 200; omega)
        have := t5.2 hk2
        exact ⟨_, _, _, y1, y2, g3.x.tr y3, g4.x.tr y4, Or.inr ⟨rfl, _, by omega, y5, y6⟩⟩
    · rw [if_neg e, if_pos z00, if_neg (fun z => e (l10.mp z))]
      obtain ⟨Mx5, Mm5, y1, y2, y3, y4, y5, y6⟩ := rain_lp (l := v) (by omega) fu v Mx2 Mm2 p5 hE2 p6 (by omega) (by show _ < 200; omega)
      exact ⟨_, _, _, y1, y2, g1.x.tr y3, g2.x.tr y4, Or.inr ⟨rfl, _, by omega, y5, y6⟩⟩
