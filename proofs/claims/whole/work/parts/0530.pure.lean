/-! meetings -/
noncomputable def lnd (σ : Nat → Int32) (a b : Nat) (x : Int32) : Nat → Int32 := upd (upd σ (9 + 4 * a) (σ (9 + 4 * a) &&& (x ^^^ (-1)))) (9 + 4 * b) ((upd σ (9 + 4 * a) (σ (9 + 4 * a) &&& (x ^^^ (-1)))) (9 + 4 * b) ||| x)
theorem handsX {σ : Nat → Int32} {a b : Nat} (ha : a < 8) (hb : b < 8) (x : Int32) : fX0_handsOver σ (nI a) (nI b) x = some (lnd σ a b x) := by
  unfold fX0_handsOver lnd
  rw [if_pos (inbn ha (by omega)), if_pos (inbn hb (by omega)), ixn (by omega), ixn (by omega)]
theorem lendsM {σ : Nat → Int32} {a b : Nat} (ha : a < 8) (hb : b < 8) (x : Int32) : fX5_lends σ (nI a) (nI b) x = some (lnd σ a b ((1 : Int32) <<< (x &&& 31))) := by
  unfold fX5_lends lnd
  rw [spot2, spot2, if_pos (inbn (by omega) (by omega)), if_pos (inbn (by omega) (by omega)), ixn (by omega), ixn (by omega)]
/-- only the books may have changed -/
def Sm (σ τ : Nat → Int32) : Prop := ∀ k, (k < 9 ∨ k % 4 ≠ 1) → τ k = σ k
theorem Sm.rfl' (σ : Nat → Int32) : Sm σ σ := fun _ _ => rfl
theorem Sm.tr {σ τ ρ : Nat → Int32} (h1 : Sm σ τ) (h2 : Sm τ ρ) : Sm σ ρ := fun k hk => (h2 k hk).trans (h1 k hk)
theorem Sm.siz {σ τ : Nat → Int32} (h : Sm σ τ) : sz τ = sz σ := by show ix (τ 1) = ix (σ 1); rw [h 1 (by omega)]
theorem lnd_sm (σ : Nat → Int32) (a b : Nat) (x : Int32) : Sm σ (lnd σ a b x) := fun k hk => by
  unfold lnd
  rw [upd_ne (by omega), upd_ne (by omega)]
theorem or_vl {k : Nat} {v x : Int32} {t c : Nat} (e : k = 9 + 4 * t) (hv : Vl k v) (hc : c < 4096) (hx : x = nI c) : Vl k (v ||| x) := by
  subst e
  obtain ⟨d, hd, ed⟩ := hv.2.2.2.1 (by omega) (by omega)
  rw [ed, hx]
  exact vl_9 (or_12 hd hc)
theorem lnd_eqv {σ τ : Nat → Int32} (h : Eqv σ τ) {a b : Nat} (ha : a < sz σ) (hb : b < sz σ) {x : Int32} {c : Nat} (hc : c < 4096) (hx : x = nI c) : Eqv (lnd σ a b x) (lnd τ a b x) := by
  have e1 : τ (9 + 4 * a) = σ (9 + 4 * a) := h.e (by omega)
  obtain ⟨d, hd, ed⟩ := (h.1.2.2.2 a ha).2.2.1
  have v1 : Vl (9 + 4 * a) (σ (9 + 4 * a) &&& (x ^^^ (-1))) := by rw [ed]; exact vl_9 (and_12 hd _)
  have q1 := eqv_upd h (k := 9 + 4 * a) (v := σ (9 + 4 * a) &&& (x ^^^ (-1))) (by omega) v1
  have z1 : sz (upd σ (9 + 4 * a) (σ (9 + 4 * a) &&& (x ^^^ (-1)))) = sz σ := sz_upd (by omega)
  have e2 := q1.e (k := 9 + 4 * b) (by omega)
  have v2 := or_vl (k := 9 + 4 * b) rfl (q1.1.vl (k := 9 + 4 * b) (by omega)) hc hx
  have q2 := eqv_upd q1 (k := 9 + 4 * b) (by omega) v2
  unfold lnd
  rw [e1, e2]
  exact q2
theorem scan_55 {τ : Nat → Int32} {x1 x2 : Int32} {m : Nat} (hm : m < 4096) (h0 : m ≠ 0) : ∀ (n j : Nat), j ≤ low m → low m - j < n → fX5_meets_55 n τ x1 x2 (nI m) (nI j) = fX5_lends τ x2 x1 (nI (low m)) := by
  intro n
  induction n with
  | zero => intro j h1 h2; omega
  | succ n ih =>
    intro j h1 h2
    rw [qX5_meets_55]
    by_cases e : j = low m
    · subst e
      rw [if_neg (low_12 m hm h0).2.2]
      cases fX5_lends τ x2 x1 (nI (low m)) <;> rfl
    · rw [if_pos (low_b m hm j (by omega)), ns1]
      exact ih (j + 1) (by omega) (by omega)
theorem meet_sim {σ τ : Nat → Int32} (h : Eqv σ τ) {i j : Nat} (hi : i < sz σ) (hj : j < sz σ) : ∃ a b, (if σ (8 + 4 * i) = σ (8 + 4 * j) then fX0_meetTwo σ (nI i) (nI j) else some σ) = some a ∧ fX5_meets τ (nI i) (nI j) = some b ∧ Eqv a b ∧ Sm σ a := by
  have hz := h.1.le
  obtain ⟨p, hp, ep⟩ := (h.1.2.2.2 i hi).2.2.1
  obtain ⟨q, hq, eq⟩ := (h.1.2.2.2 j hj).2.2.1
  have e1 : τ (8 + 4 * i) = σ (8 + 4 * i) := h.e (by omega)
  have e2 : τ (8 + 4 * j) = σ (8 + 4 * j) := h.e (by omega)
  have e3 : τ (9 + 4 * i) = nI p := (h.e (by omega)).trans ep
  have e4 : τ (9 + 4 * j) = nI q := (h.e (by omega)).trans eq
  unfold fX5_meets
  simp only [its1 (show i < 8 by omega), its1 (show j < 8 by omega), its2 (show i < 8 by omega), its2 (show j < 8 by omega), bind_some']
  rw [e1, e2, e3, e4, ones_12 p hp, ones_12 q hq]
  simp only [bind_some']
  by_cases ec : σ (8 + 4 * i) = σ (8 + 4 * j)
  · rw [if_pos ec, if_pos ec]
    unfold fX0_meetTwo
    rw [if_pos (inbn (by omega) (by omega)), if_pos (inbn (by omega) (by omega)), ixn (show i < 2 ^ 31 by omega), ixn (show j < 2 ^ 31 by omega), ep, eq, bc_12 p hp, bc_12 q hq]
    have hpp := pop_le p
    have hpq := pop_le q
    by_cases hl : pop p < pop q
    · rw [if_pos ((nlt (by omega) (by omega)).mpr hl), if_neg (by rw [nle (by omega) (by omega)]; omega), andn_12 hq]
      have hm0 := pop_news (a := q) (b := p) hq hl
      have hm : q &&& (4095 ^^^ (p % 4096)) < 4096 := Nat.lt_of_le_of_lt Nat.and_le_left hq
      rw [show (0 : Int32) = nI 0 from rfl, scan_55 hm hm0 fu 0 (by omega) (by have := (low_12 _ hm hm0).1; show _ < 200; omega), lendsM (by omega) (by omega), (low_12 _ hm hm0).2.1, handsX (by omega) (by omega), bind_some']
      obtain ⟨c, hc, ecc⟩ := sh_12 _ (low_12 _ hm hm0).1
      exact ⟨_, _, rfl, rfl, lnd_eqv h hj hi hc ecc, lnd_sm _ _ _ _⟩
    · rw [if_neg (by rw [nlt (by omega) (by omega)]; exact hl), if_pos (by rw [nle (by omega) (by omega)]; omega)]
      exact ⟨_, _, rfl, rfl, h, Sm.rfl' _⟩
  · rw [if_neg ec, if_neg ec]
    exact ⟨_, _, rfl, rfl, h, Sm.rfl' _⟩
theorem in_lp {σ0 : Nat → Int32} {r r' : (Nat → Int32) → Int32 → Option (Nat → Int32)} {P : Option (Nat → Int32) → Option (Nat → Int32) → Prop} {i : Nat} (hi : i < sz σ0) (hr : ∀ σ τ, Eqv σ τ → Sm σ0 σ → P (r σ (nI i)) (r' τ (nI i))) : ∀ (n j : Nat) (σ τ : Nat → Int32), Eqv σ τ → Sm σ0 σ → sz σ0 - j < n → j < 100 → P (fX0_meetAll_14 r n σ (nI i) (nI j)) (fX5_hour_48 r' n τ (nI i) (nI j)) := by
  intro n
  induction n with
  | zero => intro j σ τ _ _ hf; omega
  | succ n ih =>
    intro j σ τ h hs hf hj
    have hz := hs.siz
    have hz1 := h.1.z
    have hz2 := h.1.le
    have e1 : τ 1 = nI (sz σ) := (h.e (by omega)).trans hz1
    rw [qX0_meetAll_14, qX5_hour_48, hz1, e1]
    by_cases e : sz σ ≤ j
    · rw [if_pos ((nle (by omega) (by omega)).mpr e), if_pos ((nle (by omega) (by omega)).mpr e)]
      exact hr σ τ h hs
    · have c1 : ¬ nI (sz σ) ≤ nI j := by rw [nle (by omega) (by omega)]; exact e
      rw [if_neg c1, if_neg c1, if_pos (inbn (by omega) (by omega)), if_pos (inbn (by omega) (by omega)), ixn (show i < 2 ^ 31 by omega), ixn (show j < 2 ^ 31 by omega)]
      obtain ⟨a, b, ea, eb, hab, hsm⟩ := meet_sim h (i := i) (j := j) (by omega) (by omega)
      rw [eb, bind_some', ns1]
      have q := ih (j + 1) a b hab (hs.tr hsm) (by omega) (by omega)
      by_cases ec : σ (8 + 4 * i) = σ (8 + 4 * j)
      · rw [if_pos ec] at ea ⊢
        rw [ea, bind_some']; exact q
      · rw [if_neg ec] at ea ⊢
        cases ea; exact q
theorem out_lp {σ0 : Nat → Int32} : ∀ (n i : Nat) (σ τ : Nat → Int32), Eqv σ τ → Sm σ0 σ → sz σ0 - i < n → i < 100 → ∃ a b, fX0_meetAll_2 n σ (nI i) = some a ∧ fX5_hour_34 n τ (nI i) = some b ∧ Eqv (upd a 0 (a 0 + 1)) b ∧ Sm σ0 a := by
  intro n
  induction n with
  | zero => intro i σ τ _ _ hf; omega
  | succ n ih =>
    intro i σ τ h hs hf hi
    have hz := hs.siz
    have hz1 := h.1.z
    have hz2 := h.1.le
    have e1 : τ 1 = nI (sz σ) := (h.e (by omega)).trans hz1
    rw [qX0_meetAll_2, qX5_hour_34, hz1, e1]
    by_cases e : sz σ ≤ i
    · rw [if_pos ((nle (by omega) (by omega)).mpr e), if_pos ((nle (by omega) (by omega)).mpr e)]
      refine ⟨_, _, rfl, rfl, ?_, hs⟩
      rw [h.e (k := 0) (by omega)]
      exact eqv_upd h (by omega) (vl_o (by omega))
    · rw [if_neg (by rw [nle (by omega) (by omega)]; exact e), if_neg (by rw [nle (by omega) (by omega)]; exact e), ns1]
      refine in_lp (σ0 := σ0) (i := i) (P := fun X Y => ∃ a b, X = some a ∧ Y = some b ∧ Eqv (upd a 0 (a 0 + 1)) b ∧ Sm σ0 a) (by omega) (fun σ' τ' h' hs' => ?_) fu (i + 1) σ τ h hs (by show _ < 200; omega) (by omega)
      show ∃ a b, fX0_meetAll_2 n σ' (nI i + 1) = some a ∧ fX5_hour_34 n τ' (nI i + 1) = some b ∧ _
      rw [ns1]
      exact ih (i + 1) σ' τ' h' hs' (by omega) (by omega)
/-- an hour's goings: all but the books -/
def Hr (σ a : Nat → Int32) : Prop := a 0 = σ 0 + 1 ∧ (∀ k, 1 ≤ k → k < 7 → a k = σ k) ∧ ∀ t, a (7 + 4 * t) = σ (7 + 4 * t) ∧ (t < sz σ → a (8 + 4 * t) = nc σ t) ∧ a (10 + 4 * t) = σ (10 + 4 * t)
def Wk (σ0 σ : Nat → Int32) (i : Nat) : Prop := (∀ k, (k < 8 ∨ k % 4 ≠ 0) → σ k = σ0 k) ∧ (∀ t, t < i → σ (8 + 4 * t) = nc σ0 t) ∧ ∀ t, i ≤ t → σ (8 + 4 * t) = σ0 (8 + 4 * t)
theorem Wk.siz {σ τ : Nat → Int32} {i : Nat} (h : Wk σ τ i) : sz τ = sz σ := by show ix (τ 1) = ix (σ 1); rw [h.1 1 (by omega)]
theorem Wk.same {σ0 σ : Nat → Int32} {i : Nat} (h : Wk σ0 σ i) : nc σ i = nc σ0 i := nc_c (h.1 0 (by omega)) (fun k _ _ => h.1 k (by omega)) (h.1 _ (by omega)) (h.2.2 i (by omega)) (h.1 _ (by omega))
theorem Wk.next {σ0 σ : Nat → Int32} {i : Nat} (h : Wk σ0 σ i) : Wk σ0 (upd σ (8 + 4 * i) (nc σ i)) (i + 1) := by
  refine ⟨fun k hk => ?_, fun t ht => ?_, fun t ht => ?_⟩
  · rw [upd_ne (by omega)]; exact h.1 k hk
  · by_cases e : t = i
    · subst e; rw [pk_us, h.same]
    · rw [upd_ne (by omega)]; exact h.2.1 t (by omega)
  · rw [upd_ne (by omega)]; exact h.2.2 t (by omega)
theorem Eqv.nce {σ τ : Nat → Int32} (h : Eqv σ τ) {t : Nat} (ht : t < sz σ) : nc τ t = nc σ t := nc_c (h.e (by omega)) (fun k _ _ => h.e (by omega)) (h.e (by omega)) (h.e (by omega)) (h.e (by omega))
theorem hour_lp {σ0 : Nat → Int32} : ∀ (n i : Nat) (σ τ : Nat → Int32), Eqv σ τ → Wk σ0 σ i → i ≤ sz σ0 → sz σ0 - i < n → ∃ a b, fX0_goAnHour_2 n σ (nI i) = some a ∧ fX5_hour_2 n τ (nI i) = some b ∧ Eqv a b ∧ Hr σ0 a := by
  intro n
  induction n with
  | zero => intro i σ τ _ _ _ hf; omega
  | succ n ih =>
    intro i σ τ h hw hi hf
    have hz := hw.siz
    have hz1 := h.1.z
    have hz2 := h.1.le
    have e1 : τ 1 = nI (sz σ) := (h.e (by omega)).trans hz1
    rw [qX0_goAnHour_2, qX5_hour_2, hz1, e1]
    by_cases e : sz σ ≤ i
    · rw [if_pos ((nle (by omega) (by omega)).mpr e), if_pos ((nle (by omega) (by omega)).mpr e)]
      obtain ⟨a, b, ea, eb, hab, hsm⟩ := out_lp (σ0 := σ) fu 0 σ τ h (Sm.rfl' σ) (by show _ < 200; omega) (by omega)
      have ea' : fX0_meetAll σ = some a := ea
      have eb' : fX5_hour_34 fu τ 0 = some b := eb
      rw [ea', eb', bind_some']
      refine ⟨_, _, rfl, rfl, hab, ?_, fun k h1 h2 => ?_, fun t => ⟨?_, fun ht => ?_, ?_⟩⟩
      · rw [pk_us, hsm 0 (by omega), hw.1 0 (by omega)]
      · rw [upd_ne (by omega), hsm k (by omega), hw.1 k (by omega)]
      · rw [upd_ne (by omega), hsm _ (by omega), hw.1 _ (by omega)]
      · rw [upd_ne (by omega), hsm _ (by omega), hw.2.1 t (by omega)]
      · rw [upd_ne (by omega), hsm _ (by omega), hw.1 _ (by omega)]
    · rw [if_neg (by rw [nle (by omega) (by omega)]; exact e), if_neg (by rw [nle (by omega) (by omega)]; exact e), walkX (show i < 8 by omega), its3 (show i < 8 by omega), bind_some', bind_some', ns1]
      have hu := eqv_upd h (k := 8 + 4 * i) (v := nc σ i) (by omega) (vl_8 (nc_lt h.1 (by omega)))
      have q := ih (i + 1) _ _ hu hw.next (by omega) (by omega)
      have hn := h.nce (t := i) (by omega)
      have hw2 := h.wf2
      have hzt := sz_e h
      by_cases et : τ (10 + 4 * i) = 0
      · have eg : nc τ i = itS (fun c => fX0_stepFrom τ c (aimS τ i)) (pcS τ i) (τ (8 + 4 * i)) := by unfold nc; rw [if_pos et]
        rw [if_pos et, goesM (show i < 8 by omega) ((hw2.2.2.2 i (by omega)).2.1) (aimS_lt hw2 (by omega)), bind_some', ← eg, hn]
        exact q
      · have eg : nc τ i = τ (8 + 4 * i) := by unfold nc; rw [if_neg et]
        rw [if_neg et]
        rw [← hn, eg, fa_upd_same rfl] at q
        rw [← hn, eg]
        exact q
theorem hour_sim {σ τ : Nat → Int32} (h : Eqv σ τ) : ∃ a b, fX0_goAnHour σ = some a ∧ fX5_hour τ = some b ∧ Eqv a b ∧ Hr σ a :=
  hour_lp fu 0 σ τ h ⟨fun _ _ => rfl, fun t ht => by omega, fun _ _ => rfl⟩ (by omega) (by have := h.1.le; show _ < 200; omega)
theorem Hr.siz {σ a : Nat → Int32} (h : Hr σ a) : sz a = sz σ := by show ix (a 1) = ix (σ 1); rw [h.2.1 1 (by omega) (by omega)]
