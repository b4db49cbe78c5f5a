/-! island: tokens -/
def lt' (c : Nat) : Bool := decide (97 ≤ c) && decide (c ≤ 122)
def dg' (c : Nat) : Bool := decide (48 ≤ c) && decide (c ≤ 57)
set_option maxRecDepth 20000 in
theorem let_c : ∀ c, c < 256 → fX3_isLetter (nI c) = (if lt' c = true then 1 else 0) ∧ fX5_isLetter (nI c) = (if lt' c = true then 1 else 0) ∧ fX3_isDigit (nI c) = (if dg' c = true then 1 else 0) ∧ fX5_isDigit (nI c) = (if dg' c = true then 1 else 0) := by decide +kernel
theorem let_m : fX5_isLetter (-1) = 0 ∧ fX5_isDigit (-1) = 0 := by decide +kernel
theorem lt_ndg {c : Nat} (h : lt' c = true) : dg' c = false := by
  unfold lt' at h; unfold dg'
  rw [Bool.and_eq_true, decide_eq_true_iff, decide_eq_true_iff] at h
  rw [decide_eq_false (show ¬ c ≤ 57 by omega), Bool.and_false]
theorem dg_r {c : Nat} (h : dg' c = true) : 48 ≤ c ∧ c ≤ 57 := by
  unfold dg' at h
  rw [Bool.and_eq_true, decide_eq_true_iff, decide_eq_true_iff] at h
  exact h
theorem lt_r {c : Nat} (h : lt' c = true) : 97 ≤ c ∧ c ≤ 122 := by
  unfold lt' at h
  rw [Bool.and_eq_true, decide_eq_true_iff, decide_eq_true_iff] at h
  exact h
def run (p : Nat → Bool) (b : Nat → Nat) (n : Nat) : Nat → Nat → Nat
  | 0, k => k
  | f + 1, k => if k < n then (if p (b k) = true then run p b n f (k + 1) else k) else k
theorem run_s (p : Nat → Bool) (b : Nat → Nat) (n f k : Nat) : run p b n (f + 1) k = if k < n then (if p (b k) = true then run p b n f (k + 1) else k) else k := rfl
theorem run_f {p : Nat → Bool} {b : Nat → Nat} {n : Nat} : ∀ (f g k : Nat), n - k < f → n - k < g → run p b n f k = run p b n g k := by
  intro f
  induction f with
  | zero => intro g k h; omega
  | succ f ih =>
    intro g k h1 h2
    match g, h2 with
    | g + 1, h2 =>
      rw [run_s, run_s]
      by_cases e : k < n
      · rw [if_pos e, if_pos e, ih g (k + 1) (by omega) (by omega)]
      · rw [if_neg e, if_neg e]
theorem run_b {p : Nat → Bool} {b : Nat → Nat} {n : Nat} : ∀ (f k : Nat), k ≤ n → k ≤ run p b n f k ∧ run p b n f k ≤ n := by
  intro f
  induction f with
  | zero => intro k h; exact ⟨Nat.le_refl _, h⟩
  | succ f ih =>
    intro k h
    rw [run_s]
    by_cases e : k < n
    · rw [if_pos e]
      by_cases e2 : p (b k) = true
      · rw [if_pos e2]
        have := ih (k + 1) (by omega)
        omega
      · rw [if_neg e2]; omega
    · rw [if_neg e]; omega
theorem run_p {p : Nat → Bool} {b : Nat → Nat} {n : Nat} : ∀ (f k i : Nat), k ≤ i → i < run p b n f k → p (b i) = true := by
  intro f
  induction f with
  | zero => intro k i h1 h2; have : i < k := h2; omega
  | succ f ih =>
    intro k i h1 h2
    rw [run_s] at h2
    by_cases e : k < n
    · rw [if_pos e] at h2
      by_cases e2 : p (b k) = true
      · rw [if_pos e2] at h2
        by_cases e3 : i = k
        · subst e3; exact e2
        · exact ih (k + 1) i (by omega) h2
      · rw [if_neg e2] at h2; omega
    · rw [if_neg e] at h2; omega
def sp' (c : Nat) : Bool := decide (c = 32)
def tA (b : Nat → Nat) (n k : Nat) : Nat := run sp' b n fu k
def kd (b : Nat → Nat) (n a : Nat) : Nat := if a < n then (if lt' (b a) = true then 1 else if dg' (b a) = true then 2 else if b a = 59 then 3 else 4) else 0
def tE (b : Nat → Nat) (n a : Nat) : Nat := if a < n then (if lt' (b a) = true then run lt' b n fu (a + 1) else if dg' (b a) = true then run dg' b n fu (a + 1) else a + 1) else a
theorem tA_b {b : Nat → Nat} {n k : Nat} (h : k ≤ n) : k ≤ tA b n k ∧ tA b n k ≤ n := run_b fu k h
theorem tE_b {b : Nat → Nat} {n a : Nat} (h : a ≤ n) : a ≤ tE b n a ∧ tE b n a ≤ n ∧ (a < n → a < tE b n a) := by
  unfold tE
  by_cases e : a < n
  · rw [if_pos e]
    have r1 := run_b (p := lt') (b := b) (n := n) fu (a + 1) (by omega)
    have r2 := run_b (p := dg') (b := b) (n := n) fu (a + 1) (by omega)
    by_cases e1 : lt' (b a) = true
    · rw [if_pos e1]; omega
    · rw [if_neg e1]
      by_cases e2 : dg' (b a) = true
      · rw [if_pos e2]; omega
      · rw [if_neg e2]; omega
  · rw [if_neg e]; omega
def fo (g : Nat → Nat → Nat) : Nat → Nat → Nat → Nat
  | 0, _, v => v
  | m + 1, k, v => fo g m (k + 1) (g v k)
def gX (b : Nat → Nat) (v k : Nat) : Nat := if 1000 < v * 10 + b k - 48 then 1000 else v * 10 + b k - 48
def gM (b : Nat → Nat) (v k : Nat) : Nat := if 999 < v then v else 10 * v + b k - 48
def nr (v w : Nat) : Prop := (v = w ∧ v ≤ 999) ∨ (v = 1000 ∧ 1000 ≤ w ∧ w ≤ 9999)
theorem nr_lp {b : Nat → Nat} : ∀ (m k v w : Nat), (∀ i, k ≤ i → i < k + m → dg' (b i) = true) → nr v w → nr (fo (gX b) m k v) (fo (gM b) m k w) := by
  intro m
  induction m with
  | zero => intro k v w _ h; exact h
  | succ m ih =>
    intro k v w hd h
    show nr (fo (gX b) m (k + 1) (gX b v k)) (fo (gM b) m (k + 1) (gM b w k))
    refine ih (k + 1) _ _ (fun i h1 h2 => hd i (by omega) (by omega)) ?_
    have hk := dg_r (hd k (by omega) (by omega))
    unfold nr gX gM
    rcases h with ⟨rfl, h⟩ | ⟨rfl, h1, h2⟩
    · rw [if_neg (show ¬ 999 < v by omega)]
      by_cases e : 1000 < v * 10 + b k - 48
      · rw [if_pos e]; omega
      · rw [if_neg e]; omega
    · rw [if_pos (show 999 < w by omega), if_pos (show 1000 < 1000 * 10 + b k - 48 by omega)]; omega
def Tx (b : Nat → Nat) (n : Nat) (M : Mi) : Prop := n ≤ 120 ∧ M 5 0 = nI n ∧ ∀ k, k < n → M 5 (10 + k) = nI (b k) ∧ b k < 256
def Tm (b : Nat → Nat) (n : Nat) (M : Mi) : Prop := n ≤ 120 ∧ M 6 2 = nI n ∧ ∀ k, k < n → M 5 k = nI (b k) ∧ b k < 256
def F5 (M M' : Mi) : Prop := (∀ g, g ≠ 5 → M' g = M g) ∧ ∀ k, (k = 0 ∨ 5 ≤ k) → M' 5 k = M 5 k
def F6 (M M' : Mi) : Prop := (∀ g, g ≠ 6 → M' g = M g) ∧ ∀ k, k ≠ 3 → k ≠ 4 → M' 6 k = M 6 k
theorem F5.rfl' (M : Mi) : F5 M M := ⟨fun _ _ => rfl, fun _ _ => rfl⟩
theorem F6.rfl' (M : Mi) : F6 M M := ⟨fun _ _ => rfl, fun _ _ _ => rfl⟩
theorem F5.tr {A B C : Mi} (h : F5 A B) (g : F5 B C) : F5 A C := ⟨fun r a => (g.1 r a).trans (h.1 r a), fun k a => (g.2 k a).trans (h.2 k a)⟩
theorem F6.tr {A B C : Mi} (h : F6 A B) (g : F6 B C) : F6 A C := ⟨fun r a => (g.1 r a).trans (h.1 r a), fun k a c => (g.2 k a c).trans (h.2 k a c)⟩
theorem F5_w (M : Mi) {k : Nat} (v : Int32) (h0 : k ≠ 0) (h5 : k < 5) : F5 M (wM M 5 k v) := ⟨fun g hg => wM_ne _ _ _ hg, fun j hj => by rw [wM_at, upd_ne (by omega)]⟩
theorem F6_w (M : Mi) {k : Nat} (v : Int32) (h : k = 3 ∨ k = 4) : F6 M (wM M 6 k v) := ⟨fun g hg => wM_ne _ _ _ hg, fun j h1 h2 => by rw [wM_at, upd_ne (by omega)]⟩
theorem Tx.f {b : Nat → Nat} {n : Nat} {M M' : Mi} (h : Tx b n M) (hf : F5 M M') : Tx b n M' := ⟨h.1, (hf.2 0 (by omega)).trans h.2.1, fun k hk => ⟨(hf.2 _ (by omega)).trans (h.2.2 k hk).1, (h.2.2 k hk).2⟩⟩
theorem Tm.f {b : Nat → Nat} {n : Nat} {M M' : Mi} (h : Tm b n M) (hf : F6 M M') : Tm b n M' := ⟨h.1, (hf.2 2 (by omega) (by omega)).trans h.2.1, fun k hk => ⟨by rw [hf.1 5 (by omega)]; exact (h.2.2 k hk).1, (h.2.2 k hk).2⟩⟩
theorem nx68 {b : Nat → Nat} {n : Nat} {M : Mi} (h : Tx b n M) : ∀ (f k : Nat), k ≤ n → n - k < f → fX3_nextToken_68 f M (nI k) = some (wM M 5 3 (nI (run lt' b n f k))) := by
  intro f
  have hn := h.1
  induction f with
  | zero => intro k _ h; omega
  | succ f ih =>
    intro k hk hf
    rw [qX3_nextToken_68, h.2.1, run_s]
    by_cases e : k < n
    · rw [if_neg (show ¬ nI n ≤ nI k by rw [nle (by omega) (by omega)]; omega), if_pos (inbn (show k < 120 by omega) (by omega)), ixn (show k < 2 ^ 31 by omega), (h.2.2 k e).1, (let_c _ (h.2.2 k e).2).1, if_pos e]
      by_cases e2 : lt' (b k) = true
      · rw [if_pos e2, if_neg n10, if_pos e2, ns1]; exact ih (k + 1) (by omega) (by omega)
      · rw [if_neg e2, if_pos z00, if_neg e2]
    · rw [if_pos (show nI n ≤ nI k by rw [nle (by omega) (by omega)]; omega), if_neg e]
theorem n_mul (a b : Nat) : nI a * nI b = nI (a * b) := (Int32.ofNat_mul a b).symm
theorem nx116 {b : Nat → Nat} {n : Nat} : ∀ (f k v : Nat) (M : Mi), Tx b n M → k ≤ n → n - k < f → M 5 4 = nI v → v ≤ 1000 → ∃ M', fX3_nextToken_116 f M (nI k) = some M' ∧ F5 M M' ∧ M' 5 1 = M 5 1 ∧ M' 5 2 = M 5 2 ∧ M' 5 3 = nI (run dg' b n f k) ∧ M' 5 4 = nI (fo (gX b) (run dg' b n f k - k) k v) := by
  intro f
  induction f with
  | zero => intro k v M _ _ h; omega
  | succ f ih =>
    intro k v M h hk hf hv hv2
    have hn := h.1
    rw [qX3_nextToken_116, h.2.1, run_s]
    by_cases e : k < n
    · rw [if_neg (show ¬ nI n ≤ nI k by rw [nle (by omega) (by omega)]; omega), if_pos (inbn (show k < 120 by omega) (by omega)), ixn (show k < 2 ^ 31 by omega), (h.2.2 k e).1, (let_c _ (h.2.2 k e).2).2.2.1, if_pos e]
      by_cases e2 : dg' (b k) = true
      · have hd := dg_r e2
        have q : (if 1000 < (M 5 4 * 10 + nI (b k)) - 48 then 1000 else (M 5 4 * 10 + nI (b k)) - 48 : Int32) = nI (gX b v k) := by
          rw [hv, show (10 : Int32) = nI 10 from rfl, n_mul, nI_add, show (48 : Int32) = nI 48 from rfl, n_sub (by omega)]
          unfold gX
          by_cases e3 : 1000 < v * 10 + b k - 48
          · rw [if_pos (show (1000 : Int32) < nI (v * 10 + b k - 48) from (nlt (a := 1000) (by omega) (by omega)).mpr e3), if_pos e3]; rfl
          · rw [if_neg (show ¬ (1000 : Int32) < nI (v * 10 + b k - 48) from fun q => e3 ((nlt (a := 1000) (by omega) (by omega)).mp q)), if_neg e3]
        rw [if_pos e2, if_neg n10, if_pos e2, ns1, q]
        have hg : gX b v k ≤ 1000 := by unfold gX; by_cases e3 : 1000 < v * 10 + b k - 48 <;> simp only [e3, if_true, if_false] <;> omega
        have hF := F5_w M (k := 4) (nI (gX b v k)) (by omega) (by omega)
        obtain ⟨M', q1, q2, q3, q4, q5, q6⟩ := ih (k + 1) (gX b v k) (wM M 5 4 (nI (gX b v k))) (h.f hF) (by omega) (by omega) (by rw [wM_at, pk_us]) hg
        have hr := run_b (p := dg') (b := b) (n := n) f (k + 1) (by omega)
        refine ⟨M', q1, hF.tr q2, ?_, ?_, q5, ?_⟩
        · rw [q3, wM_at, upd_ne (by omega)]
        · rw [q4, wM_at, upd_ne (by omega)]
        · rw [q6, show run dg' b n f (k + 1) - k = (run dg' b n f (k + 1) - (k + 1)) + 1 by omega]; rfl
      · rw [if_neg e2, if_pos z00, if_neg e2]
        refine ⟨_, rfl, F5_w M _ (by omega) (by omega), ?_, ?_, ?_, ?_⟩
        · rw [wM_at, upd_ne (by omega)]
        · rw [wM_at, upd_ne (by omega)]
        · rw [wM_at, pk_us]
        · rw [wM_at, upd_ne (by omega), hv, Nat.sub_self]; rfl
    · rw [if_pos (show nI n ≤ nI k by rw [nle (by omega) (by omega)]; omega), if_neg e]
      refine ⟨_, rfl, F5_w M _ (by omega) (by omega), ?_, ?_, ?_, ?_⟩
      · rw [wM_at, upd_ne (by omega)]
      · rw [wM_at, upd_ne (by omega)]
      · rw [wM_at, pk_us]
      · rw [wM_at, upd_ne (by omega), hv, Nat.sub_self]; rfl
def Lx (b : Nat → Nat) (n : Nat) (M : Mi) (a : Nat) : Prop := a ≤ n ∧ M 5 2 = nI a ∧ M 5 3 = nI (tE b n a) ∧ M 5 1 = nI (kd b n a) ∧ (kd b n a = 2 → M 5 4 = nI (fo (gX b) (tE b n a - a) a 0))
def Lm (b : Nat → Nat) (n : Nat) (M : Mi) (a : Nat) : Prop := a ≤ n ∧ M 6 3 = nI a ∧ M 6 4 = nI (tE b n a)
theorem run_1 {p : Nat → Bool} {b : Nat → Nat} {n a : Nat} (hn : n ≤ 120) (h : a < n) (hp : p (b a) = true) : run p b n fu a = run p b n fu (a + 1) := by
  have e : run p b n (199 + 1) a = run p b n 199 (a + 1) := by rw [run_s, if_pos h, if_pos hp]
  have e2 : run p b n 199 (a + 1) = run p b n fu (a + 1) := run_f 199 fu (a + 1) (by omega) (by show _ < 200; omega)
  exact e.trans e2
theorem nx30 {b : Nat → Nat} {n : Nat} {M : Mi} (h : Tx b n M) {a : Nat} (ha : a ≤ n) : ∃ M', fX3_nextToken_30 M (nI a) = some M' ∧ F5 M M' ∧ Lx b n M' a := by
  have hn := h.1
  unfold fX3_nextToken_30
  rw [h.2.1]
  by_cases e : a < n
  · have hb := h.2.2 a e
    have r : (wM M 5 2 (nI a)) 5 (10 + a) = nI (b a) := by rw [wM_at, upd_ne (by omega)]; exact hb.1
    rw [if_pos ((nlt (by omega) (by omega)).mpr e), if_pos (inbn (show a < 120 by omega) (by omega)), ixn (show a < 2 ^ 31 by omega), r, (let_c _ hb.2).1, (let_c _ hb.2).2.2.1]
    by_cases e1 : lt' (b a) = true
    · have ek : kd b n a = 1 := by unfold kd; rw [if_pos e, if_pos e1]
      have ee : tE b n a = run lt' b n fu a := by unfold tE; rw [if_pos e, if_pos e1, run_1 hn e e1]
      have hF : F5 M (wM (wM M 5 2 (nI a)) 5 1 1) := (F5_w M (k := 2) (nI a) (by omega) (by omega)).tr (F5_w _ (k := 1) 1 (by omega) (by omega))
      rw [if_pos e1, if_neg n10, nx68 (h.f hF) fu a ha (by show _ < 200; omega)]
      refine ⟨_, rfl, hF.tr (F5_w _ (k := 3) _ (by omega) (by omega)), ha, ?_, ?_, ?_, fun q => by rw [ek] at q; omega⟩
      · rw [wM_at, upd_ne (by omega), wM_at, upd_ne (by omega), wM_at, pk_us]
      · rw [wM_at, pk_us, ee]
      · rw [wM_at, upd_ne (by omega), wM_at, pk_us, ek]; rfl
    · rw [if_neg e1, if_pos z00]
      by_cases e2 : dg' (b a) = true
      · have ek : kd b n a = 2 := by unfold kd; rw [if_pos e, if_neg e1, if_pos e2]
        have ee : tE b n a = run dg' b n fu a := by unfold tE; rw [if_pos e, if_neg e1, if_pos e2, run_1 hn e e2]
        have hF : F5 M (wM (wM (wM M 5 2 (nI a)) 5 1 2) 5 4 0) := ((F5_w M (k := 2) (nI a) (by omega) (by omega)).tr (F5_w _ (k := 1) 2 (by omega) (by omega))).tr (F5_w _ (k := 4) 0 (by omega) (by omega))
        rw [if_pos e2, if_neg n10]
        obtain ⟨M', q1, q2, q3, q4, q5, q6⟩ := nx116 (b := b) (n := n) fu a 0 _ (h.f hF) ha (by show _ < 200; omega) (by rw [wM_at, pk_us]; rfl) (by omega)
        refine ⟨M', q1, hF.tr q2, ha, ?_, ?_, ?_, fun _ => ?_⟩
        · rw [q4, wM_at, upd_ne (by omega), wM_at, upd_ne (by omega), wM_at, pk_us]
        · rw [q5, ee]
        · rw [q3, wM_at, upd_ne (by omega), wM_at, pk_us, ek]; rfl
        · rw [q6, ee]
      · have ee : tE b n a = a + 1 := by unfold tE; rw [if_pos e, if_neg e1, if_neg e2]
        rw [if_neg e2, if_pos z00]
        refine ⟨_, rfl, ((F5_w M (k := 2) (nI a) (by omega) (by omega)).tr (F5_w _ (k := 1) _ (by omega) (by omega))).tr (F5_w _ (k := 3) _ (by omega) (by omega)), ha, ?_, ?_, ?_, fun q => ?_⟩
        · rw [wM_at, upd_ne (by omega), wM_at, upd_ne (by omega), wM_at, pk_us]
        · rw [wM_at, pk_us, ee, ns1]
        · rw [wM_at, upd_ne (by omega), wM_at, pk_us]
          unfold kd
          rw [if_pos e, if_neg e1, if_neg e2]
          by_cases e3 : b a = 59
          · rw [if_pos e3, if_pos (show nI (b a) = 59 by rw [e3]; rfl)]; rfl
          · rw [if_neg e3, if_neg (show ¬ nI (b a) = 59 from fun q => e3 ((neq (b := 59) (by omega) (by omega)).mp q))]; rfl
        · exfalso
          unfold kd at q
          rw [if_pos e, if_neg e1, if_neg e2] at q
          by_cases e3 : b a = 59
          · rw [if_pos e3] at q; omega
          · rw [if_neg e3] at q; omega
  · have ek : kd b n a = 0 := by unfold kd; rw [if_neg e]
    have ee : tE b n a = a := by unfold tE; rw [if_neg e]
    rw [if_neg (fun q => e ((nlt (by omega) (by omega)).mp q))]
    refine ⟨_, rfl, ((F5_w M (k := 2) (nI a) (by omega) (by omega)).tr (F5_w _ (k := 1) 0 (by omega) (by omega))).tr (F5_w _ (k := 3) _ (by omega) (by omega)), ha, ?_, ?_, ?_, fun q => by rw [ek] at q; omega⟩
    · rw [wM_at, upd_ne (by omega), wM_at, upd_ne (by omega), wM_at, pk_us]
    · rw [wM_at, pk_us, ee]
    · rw [wM_at, upd_ne (by omega), wM_at, pk_us, ek]; rfl
theorem nx5 {b : Nat → Nat} {n : Nat} {M : Mi} (h : Tx b n M) : ∀ (f k : Nat), k ≤ n → n - k < f → fX3_nextToken_5 f M (nI k) = fX3_nextToken_30 M (nI (run sp' b n f k)) := by
  intro f
  have hn := h.1
  induction f with
  | zero => intro k _ h; omega
  | succ f ih =>
    intro k hk hf
    rw [qX3_nextToken_5, h.2.1, run_s]
    by_cases e : k < n
    · have hb := h.2.2 k e
      rw [if_neg (show ¬ nI n ≤ nI k by rw [nle (by omega) (by omega)]; omega), if_pos (inbn (show k < 120 by omega) (by omega)), ixn (show k < 2 ^ 31 by omega), hb.1, if_pos e]
      by_cases e2 : b k = 32
      · rw [if_pos (show nI (b k) = 32 by rw [e2]; rfl), if_pos (show sp' (b k) = true from decide_eq_true e2), ns1]; exact ih (k + 1) (by omega) (by omega)
      · rw [if_neg (show ¬ nI (b k) = 32 from fun q => e2 ((neq (b := 32) (by omega) (by omega)).mp q)), if_neg (show ¬ sp' (b k) = true from fun q => e2 (of_decide_eq_true q))]
    · rw [if_pos (show nI n ≤ nI k by rw [nle (by omega) (by omega)]; omega), if_neg e]
theorem nxX {b : Nat → Nat} {n : Nat} {M : Mi} (h : Tx b n M) {k : Nat} (hk : k ≤ n) (h3 : M 5 3 = nI k) : ∃ M', fX3_nextToken M = some M' ∧ F5 M M' ∧ Lx b n M' (tA b n k) := by
  have hn := h.1
  unfold fX3_nextToken
  rw [h3, nx5 h fu k hk (by show _ < 200; omega)]
  exact nx30 h (tA_b hk).2
/-! and there -/
theorem byteM {b : Nat → Nat} {n : Nat} {M : Mi} (h : Tm b n M) {k : Nat} (hk : k ≤ n) : fX5_byteAt M (nI k) = some (if k < n then nI (b k) else -1) := by
  have hn := h.1
  unfold fX5_byteAt
  rw [h.2.1]
  by_cases e : k < n
  · rw [if_neg (show ¬ nI n ≤ nI k by rw [nle (by omega) (by omega)]; omega), if_pos (inbn (show k < 120 by omega) (by omega)), ixn (show k < 2 ^ 31 by omega), (h.2.2 k e).1, if_pos e]
  · rw [if_pos (show nI n ≤ nI k by rw [nle (by omega) (by omega)]; omega), if_neg e]
theorem ltB {b : Nat → Nat} {n : Nat} {M : Mi} (h : Tm b n M) (k : Nat) : fX5_isLetter (if k < n then nI (b k) else -1) = if k < n ∧ lt' (b k) = true then 1 else 0 := by
  by_cases e : k < n
  · rw [if_pos e, (let_c _ (h.2.2 k e).2).2.1]
    by_cases e2 : lt' (b k) = true
    · rw [if_pos e2, if_pos ⟨e, e2⟩]
    · rw [if_neg e2, if_neg (fun q => e2 q.2)]
  · rw [if_neg e, let_m.1, if_neg (fun q => e q.1)]
theorem dgB {b : Nat → Nat} {n : Nat} {M : Mi} (h : Tm b n M) (k : Nat) : fX5_isDigit (if k < n then nI (b k) else -1) = if k < n ∧ dg' (b k) = true then 1 else 0 := by
  by_cases e : k < n
  · rw [if_pos e, (let_c _ (h.2.2 k e).2).2.2.2]
    by_cases e2 : dg' (b k) = true
    · rw [if_pos e2, if_pos ⟨e, e2⟩]
    · rw [if_neg e2, if_neg (fun q => e2 q.2)]
  · rw [if_neg e, let_m.2, if_neg (fun q => e q.1)]
theorem tk86 {b : Nat → Nat} {n : Nat} {p : Nat → Bool} {x1 x2 : Int32} (hx : (x1 = 1 ∧ x2 = 0 ∧ p = lt') ∨ (x1 = 0 ∧ x2 = 1 ∧ p = dg')) : ∀ (f k : Nat) (M : Mi), Tm b n M → k ≤ n → n - k < f → M 6 4 = nI k → ∃ M', fX5_token_86 f M x1 x2 = some M' ∧ F6 M M' ∧ M' 6 3 = M 6 3 ∧ M' 6 4 = nI (run p b n f k) := by
  intro f
  induction f with
  | zero => intro k M _ _ h; omega
  | succ f ih =>
    intro k M h hk hf h4
    rw [qX5_token_86, run_s]
    unfold fX5_token_104 fX5_token_122
    rw [h4, byteM h hk, bind_some', bind_some', ltB h, dgB h]
    have stop : ¬ (k < n ∧ p (b k) = true) → (if k < n then (if p (b k) = true then run p b n f (k + 1) else k) else k) = k := fun q => by
      by_cases e : k < n
      · rw [if_pos e, if_neg (fun z => q ⟨e, z⟩)]
      · rw [if_neg e]
    have go : (k < n ∧ p (b k) = true) → ∃ M', fX5_token_86 f (wM M 6 4 (nI k + 1)) x1 x2 = some M' ∧ F6 M M' ∧ M' 6 3 = M 6 3 ∧ M' 6 4 = nI (if k < n then (if p (b k) = true then run p b n f (k + 1) else k) else k) := fun q => by
      have hF := F6_w M (k := 4) (nI k + 1) (by omega)
      obtain ⟨M', q1, q2, q3, q4⟩ := ih (k + 1) (wM M 6 4 (nI k + 1)) (h.f hF) (by omega) (by omega) (by rw [wM_at, pk_us, ns1])
      refine ⟨M', q1, hF.tr q2, ?_, ?_⟩
      · rw [q3, wM_at, upd_ne (by omega)]
      · rw [q4, if_pos q.1, if_pos q.2]
    rcases hx with ⟨rfl, rfl, rfl⟩ | ⟨rfl, rfl, rfl⟩
    · rw [if_neg n10]
      by_cases q : k < n ∧ lt' (b k) = true
      · rw [if_pos q, if_neg n10]; exact go q
      · rw [if_neg q, if_pos z00, if_pos z00, stop q]
        exact ⟨M, rfl, F6.rfl' _, rfl, h4⟩
    · rw [if_pos z00, if_neg n10]
      by_cases q : k < n ∧ dg' (b k) = true
      · rw [if_pos q, if_neg n10]; exact go q
      · rw [if_neg q, if_pos z00, stop q]
        exact ⟨M, rfl, F6.rfl' _, rfl, h4⟩
theorem tk86_0 {f : Nat} (M : Mi) : fX5_token_86 (f + 1) M 0 0 = some M := by
  rw [qX5_token_86, if_pos z00]
  unfold fX5_token_104
  rw [if_pos z00]
theorem tk8 {b : Nat → Nat} {n : Nat} : ∀ (f k : Nat) (M : Mi), Tm b n M → k ≤ n → n - k < f → M 6 3 = nI k → ∃ M', fX5_token_8 f M = some M' ∧ F6 M M' ∧ Lm b n M' (run sp' b n f k) := by
  intro f
  induction f with
  | zero => intro k M _ _ h; omega
  | succ f ih =>
    intro k M h hk hf h3
    have hn := h.1
    rw [qX5_token_8, h3, byteM h hk, bind_some', bind_some', bind_some', run_s, ltB h, dgB h, h.2.1]
    by_cases e : k < n
    · have hb := h.2.2 k e
      rw [if_pos e, if_pos e]
      by_cases e2 : b k = 32
      · rw [if_pos (show nI (b k) = 32 by rw [e2]; rfl), if_pos (show sp' (b k) = true from decide_eq_true e2)]
        have hF := F6_w M (k := 3) (nI k + 1) (by omega)
        obtain ⟨M', q1, q2, q3⟩ := ih (k + 1) (wM M 6 3 (nI k + 1)) (h.f hF) (by omega) (by omega) (by rw [wM_at, pk_us, ns1])
        exact ⟨M', q1, hF.tr q2, q3⟩
      · rw [if_neg (show ¬ nI (b k) = 32 from fun q => e2 ((neq (b := 32) (by omega) (by omega)).mp q)), if_neg (show ¬ sp' (b k) = true from fun q => e2 (of_decide_eq_true q)), if_neg (show ¬ nI n ≤ nI k by rw [nle (by omega) (by omega)]; omega), ns1]
        have hF := F6_w M (k := 4) (nI (k + 1)) (by omega)
        have h63 : (wM M 6 4 (nI (k + 1))) 6 3 = nI k := by rw [wM_at, upd_ne (by omega)]; exact h3
        have h64 : (wM M 6 4 (nI (k + 1))) 6 4 = nI (k + 1) := by rw [wM_at, pk_us]
        by_cases e3 : lt' (b k) = true
        · rw [if_pos ⟨e, e3⟩, if_neg (show ¬ (k < n ∧ dg' (b k) = true) from fun q => by rw [lt_ndg e3] at q; exact absurd q.2 (by decide))]
          obtain ⟨M', q1, q2, q3, q4⟩ := tk86 (b := b) (n := n) (Or.inl ⟨rfl, rfl, rfl⟩) fu (k + 1) _ (h.f hF) (by omega) (by show _ < 200; omega) h64
          refine ⟨M', q1, hF.tr q2, hk, q3.trans h63, ?_⟩
          rw [q4]; unfold tE; rw [if_pos e, if_pos e3]
        · rw [if_neg (show ¬ (k < n ∧ lt' (b k) = true) from fun q => e3 q.2)]
          by_cases e4 : dg' (b k) = true
          · rw [if_pos ⟨e, e4⟩]
            obtain ⟨M', q1, q2, q3, q4⟩ := tk86 (b := b) (n := n) (Or.inr ⟨rfl, rfl, rfl⟩) fu (k + 1) _ (h.f hF) (by omega) (by show _ < 200; omega) h64
            refine ⟨M', q1, hF.tr q2, hk, q3.trans h63, ?_⟩
            rw [q4]; unfold tE; rw [if_pos e, if_neg e3, if_pos e4]
          · rw [if_neg (show ¬ (k < n ∧ dg' (b k) = true) from fun q => e4 q.2), show fX5_token_86 fu (wM M 6 4 (nI (k + 1))) 0 0 = some (wM M 6 4 (nI (k + 1))) from tk86_0 (f := 199) _]
            refine ⟨_, rfl, hF, hk, h63, ?_⟩
            rw [h64]; unfold tE; rw [if_pos e, if_neg e3, if_neg e4]
    · rw [if_neg e, if_neg e, if_neg (show ¬ (-1 : Int32) = 32 by decide), if_pos (show nI n ≤ nI k by rw [nle (by omega) (by omega)]; omega), if_neg (show ¬ (k < n ∧ lt' (b k) = true) from fun q => e q.1), if_neg (show ¬ (k < n ∧ dg' (b k) = true) from fun q => e q.1), show fX5_token_86 fu (wM M 6 4 (nI k)) 0 0 = some (wM M 6 4 (nI k)) from tk86_0 (f := 199) _]
      refine ⟨_, rfl, F6_w M _ (by omega), hk, ?_, ?_⟩
      · rw [wM_at, upd_ne (by omega)]; exact h3
      · rw [wM_at, pk_us]; unfold tE; rw [if_neg e]
theorem tkM {b : Nat → Nat} {n : Nat} {M : Mi} (h : Tm b n M) {k : Nat} (hk : k ≤ n) (h4 : M 6 4 = nI k) : ∃ M', fX5_token M = some M' ∧ F6 M M' ∧ Lm b n M' (tA b n k) := by
  have hn := h.1
  unfold fX5_token
  rw [h4]
  have hF := F6_w M (k := 3) (nI k) (by omega)
  obtain ⟨M', q1, q2, q3⟩ := tk8 (b := b) (n := n) fu k (wM M 6 3 (nI k)) (h.f hF) hk (by show _ < 200; omega) (by rw [wM_at, pk_us])
  exact ⟨M', q1, hF.tr q2, q3⟩
