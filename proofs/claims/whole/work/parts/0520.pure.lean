/-! sets of subjects: how many, the least; what a store keeps -/
def pop (b : Nat) : Nat := fb_ct (fun i => b.testBit i) 12
def low (b : Nat) : Nat := (List.range 12).findIdx (fun i => b.testBit i)
set_option maxRecDepth 100000 in
theorem bc_12 : ∀ b, b < 4096 → fJ6_bitCount_0f7a4 (nI b) = nI (pop b) := by decide +kernel
set_option maxRecDepth 100000 in
theorem ones_12 : ∀ b, b < 4096 → fX5_ones (nI b) = some (nI (pop b)) := by decide +kernel
theorem pop_le (b : Nat) : pop b ≤ 12 := fb_ct_le _ 12
set_option maxRecDepth 100000 in
theorem low_12 : ∀ m, m < 4096 → m ≠ 0 → low m < 12 ∧ (nI m &&& (-(nI m))) = ((1 : Int32) <<< (nI (low m) &&& 31)) ∧ ¬ ((nI m >>> (nI (low m) &&& 31)) &&& 1) = 0 := by decide +kernel
set_option maxRecDepth 100000 in
theorem low_b : ∀ m, m < 4096 → ∀ i, i < low m → ((nI m >>> (nI i &&& 31)) &&& 1) = 0 := by decide +kernel
theorem b_nI (b : Nat) {i : Nat} (hi : i < 32) : bt (nI b) i = b.testBit i := by
  show (BitVec.ofNat 32 b).getLsbD i = _
  rw [BitVec.getLsbD_ofNat]; simp [hi]
theorem tb_lt {b k i : Nat} (hb : b < 2 ^ k) (hi : k ≤ i) : b.testBit i = false := Nat.testBit_lt_two_pow (Nat.lt_of_lt_of_le hb (Nat.pow_le_pow_right (by decide) hi))
theorem andn_12 {a b : Nat} (ha : a < 4096) : (nI a &&& (nI b ^^^ (-1))) = nI (a &&& (4095 ^^^ (b % 4096))) := by
  refine b_ext (fun i hi => ?_)
  rw [b_and, b_xor, b_m1 i hi, b_nI a hi, b_nI b hi, b_nI _ hi, Nat.testBit_and, Nat.testBit_xor]
  by_cases h : i < 12
  · rw [show (4095 : Nat) = 2 ^ 12 - 1 from rfl, Nat.testBit_two_pow_sub_one, show (4096 : Nat) = 2 ^ 12 from rfl, Nat.testBit_mod_two_pow]
    simp [h]
  · rw [tb_lt (k := 12) ha (by omega)]; rfl
theorem and_12 {a : Nat} (ha : a < 4096) (y : Int32) : ∃ c, c < 4096 ∧ nI a &&& y = nI c := by
  refine (set_c (nI a &&& y) (k := 12) (by omega)).mp (b_ext (fun i hi => ?_))
  have hz := (set_c (nI a) (k := 12) (by omega)).mpr ⟨a, ha, rfl⟩
  have hz2 : bt (nI a &&& (nI (2 ^ 12 - 1) ^^^ (-1))) i = false := by rw [hz]; exact b_0 i
  rw [b_and] at hz2 ⊢
  rw [b_and, b_0]
  revert hz2
  cases bt (nI a) i <;> cases bt y i <;> cases bt (nI (2 ^ 12 - 1) ^^^ (-1)) i <;> simp
theorem or_12 {a b : Nat} (ha : a < 4096) (hb : b < 4096) : ∃ c, c < 4096 ∧ nI a ||| nI b = nI c := ⟨a ||| b, Nat.or_lt_two_pow (n := 12) ha hb, fa_or a b⟩
theorem sh_12 : ∀ j, j < 12 → ∃ c, c < 4096 ∧ ((1 : Int32) <<< (nI j &&& 31)) = nI c := fun j hj => ⟨2 ^ j, Nat.pow_lt_pow_right (by decide) hj, by
  have : ∀ j, j < 12 → ((1 : Int32) <<< (nI j &&& 31)) = nI (2 ^ j) := by decide +kernel
  exact this j hj⟩
/-- more books: one that the other hasn't -/
theorem pop_news {a b : Nat} (ha : a < 4096) (h : pop b < pop a) : a &&& (4095 ^^^ (b % 4096)) ≠ 0 := by
  intro e
  have hs : pop a ≤ pop b := fb_ct_sub (fun k hk h1 => by
    have h2 : (a &&& (4095 ^^^ (b % 4096))).testBit k = false := by rw [e]; exact Nat.zero_testBit k
    rw [Nat.testBit_and, Nat.testBit_xor, show (4095 : Nat) = 2 ^ 12 - 1 from rfl, Nat.testBit_two_pow_sub_one, show (4096 : Nat) = 2 ^ 12 from rfl, Nat.testBit_mod_two_pow, h1] at h2
    simpa [hk] using h2)
  omega
/-- what may stand at a place -/
def Vl (k : Nat) (v : Int32) : Prop := (3 ≤ k → k ≤ 5 → ∃ c, c < 30 ∧ v = nI c) ∧ (7 ≤ k → k % 4 = 3 → ∃ c, c < 6 ∧ v = nI c) ∧ (7 ≤ k → k % 4 = 0 → ∃ c, c < 30 ∧ v = nI c) ∧ (7 ≤ k → k % 4 = 1 → ∃ c, c < 4096 ∧ v = nI c) ∧ (7 ≤ k → k % 4 = 2 → v = 0 ∨ v = 1)
theorem sz_upd {σ : Nat → Int32} {k : Nat} {v : Int32} (hk : k ≠ 1) : sz (upd σ k v) = sz σ := by unfold sz; rw [upd_ne (Ne.symm hk)]
theorem Wf.vl {σ : Nat → Int32} (h : Wf σ) {k : Nat} (hk : k < 7 + 4 * sz σ) : Vl k (σ k) := by
  refine ⟨fun a b => h.2.2.1 k a b, fun a b => ?_, fun a b => ?_, fun a b => ?_, fun a b => ?_⟩
  · have e : k = 7 + 4 * ((k - 7) / 4) := by omega
    rw [e]; exact (h.2.2.2 _ (by omega)).1
  · have e : k = 8 + 4 * ((k - 8) / 4) := by omega
    rw [e]; exact (h.2.2.2 _ (by omega)).2.1
  · have e : k = 9 + 4 * ((k - 9) / 4) := by omega
    rw [e]; exact (h.2.2.2 _ (by omega)).2.2.1
  · have e : k = 10 + 4 * ((k - 10) / 4) := by omega
    rw [e]; exact (h.2.2.2 _ (by omega)).2.2.2
theorem wf_of {σ : Nat → Int32} (h1 : σ 1 = nI (sz σ)) (h2 : sz σ ≤ 8) (h : ∀ k, k < 7 + 4 * sz σ → Vl k (σ k)) : Wf σ :=
  ⟨h1, h2, fun k a b => (h k (by omega)).1 a b, fun t ht => ⟨(h (7 + 4 * t) (by omega)).2.1 (by omega) (by omega), (h (8 + 4 * t) (by omega)).2.2.1 (by omega) (by omega), (h (9 + 4 * t) (by omega)).2.2.2.1 (by omega) (by omega), (h (10 + 4 * t) (by omega)).2.2.2.2 (by omega) (by omega)⟩⟩
theorem wf_upd {σ : Nat → Int32} (h : Wf σ) {k : Nat} {v : Int32} (hk : k ≠ 1) (hv : Vl k v) : Wf (upd σ k v) := by
  refine wf_of ?_ ?_ ?_
  · rw [sz_upd hk, upd_ne (Ne.symm hk)]; exact h.1
  · rw [sz_upd hk]; exact h.2.1
  · intro j hj
    rw [sz_upd hk] at hj
    by_cases e : j = k
    · subst e; rw [pk_us]; exact hv
    · rw [upd_ne e]; exact h.vl hj
theorem eqv_upd {σ τ : Nat → Int32} (h : Eqv σ τ) {k : Nat} {v : Int32} (hk : k ≠ 1) (hv : Vl k v) : Eqv (upd σ k v) (upd τ k v) := by
  refine ⟨wf_upd h.1 hk hv, fun j hj => ?_⟩
  rw [sz_upd hk] at hj
  by_cases e : j = k
  · subst e; rw [pk_us, pk_us]
  · rw [upd_ne e, upd_ne e]; exact h.2 j hj
theorem Eqv.wf2 {σ τ : Nat → Int32} (h : Eqv σ τ) : Wf τ := by
  have e := sz_e h
  refine wf_of ?_ ?_ ?_
  · rw [e, h.e (by omega)]; exact h.1.1
  · rw [e]; exact h.1.2.1
  · intro k hk
    rw [e] at hk
    rw [h.e hk]; exact h.1.vl hk
theorem vl_7 {t : Nat} {v : Int32} (h : ∃ c, c < 6 ∧ v = nI c) : Vl (7 + 4 * t) v := ⟨fun _ _ => by omega, fun _ _ => h, fun _ _ => by omega, fun _ _ => by omega, fun _ _ => by omega⟩
theorem vl_8 {t : Nat} {v : Int32} (h : ∃ c, c < 30 ∧ v = nI c) : Vl (8 + 4 * t) v := ⟨fun _ _ => by omega, fun _ _ => by omega, fun _ _ => h, fun _ _ => by omega, fun _ _ => by omega⟩
theorem vl_9 {t : Nat} {v : Int32} (h : ∃ c, c < 4096 ∧ v = nI c) : Vl (9 + 4 * t) v := ⟨fun _ _ => by omega, fun _ _ => by omega, fun _ _ => by omega, fun _ _ => h, fun _ _ => by omega⟩
theorem vl_10 {t : Nat} {v : Int32} (h : v = 0 ∨ v = 1) : Vl (10 + 4 * t) v := ⟨fun _ _ => by omega, fun _ _ => by omega, fun _ _ => by omega, fun _ _ => by omega, fun _ _ => h⟩
theorem vl_sp {k : Nat} {v : Int32} (hk : k ≤ 5) (h : ∃ c, c < 30 ∧ v = nI c) : Vl k v := ⟨fun _ _ => h, fun _ _ => by omega, fun _ _ => by omega, fun _ _ => by omega, fun _ _ => by omega⟩
theorem vl_o {k : Nat} {v : Int32} (hk : k < 3 ∨ k = 6) : Vl k v := ⟨fun _ _ => by omega, fun _ _ => by omega, fun _ _ => by omega, fun _ _ => by omega, fun _ _ => by omega⟩
