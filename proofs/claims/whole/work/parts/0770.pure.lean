/-! count: the bits of any word -/
theorem b_nI' {a : Nat} (ha : a < 2 ^ 32) (i : Nat) : bt (nI a) i = a.testBit i := by
  by_cases h : i < 32
  · exact b_nI a h
  · have e : a.testBit i = false := Nat.testBit_lt_two_pow (Nat.lt_of_lt_of_le ha (Nat.pow_le_pow_right (by decide) (by omega)))
    rw [e]
    show (BitVec.ofNat 32 a).getLsbD i = false
    exact BitVec.getLsbD_of_ge _ _ (by omega)
theorem n_and (a b : Nat) : nI a &&& nI b = nI (a &&& b) := b_ext (fun i hi => by rw [b_and, b_nI _ hi, b_nI _ hi, b_nI _ hi, Nat.testBit_and])
theorem n_ushr {a s : Nat} (ha : a < 2 ^ 32) (hs : s < 32) : ushr (nI a) (nI s) = nI (a / 2 ^ s) := b_ext (fun i hi => by
  have q : bt (ushr (nI a) (nI s)) i = bt (nI a) (s + i) := b_ushr s hs (nI a) i
  rw [q, b_nI' ha, b_nI _ hi, Nat.testBit_div_two_pow, Nat.add_comm])
theorem n_sub {a b : Nat} (h : b ≤ a) : nI a - nI b = nI (a - b) := by
  obtain ⟨c, rfl⟩ := Nat.exists_eq_add_of_le' h
  rw [← nI_add, Int32.add_sub_cancel, Nat.add_sub_cancel]
theorem n_0 {m : Nat} (hm : m < 2 ^ 32) : nI m = 0 ↔ m = 0 := by
  constructor
  · intro h
    have q : (BitVec.ofNat 32 m).toNat = (BitVec.ofNat 32 0).toNat := congrArg (fun x : Int32 => x.toBitVec.toNat) h
    rw [BitVec.toNat_ofNat, BitVec.toNat_ofNat, Nat.mod_eq_of_lt hm] at q
    exact q
  · rintro rfl; rfl
theorem n_any (x : Int32) : ∃ n, n < 2 ^ 32 ∧ x = nI n := by
  refine ⟨x.toBitVec.toNat, x.toBitVec.isLt, Int32.toBitVec_inj.1 ?_⟩
  show _ = BitVec.ofNat 32 _
  exact BitVec.eq_of_toNat_eq (by rw [BitVec.toNat_ofNat, Nat.mod_eq_of_lt x.toBitVec.isLt])
def by4 (a b c d : Nat) : Nat := a + 256 * b + 65536 * c + 16777216 * d
theorem and_s (x y : Nat) : x &&& y = (x % 256 &&& y % 256) + 256 * (x / 256 &&& y / 256) := by
  have h := Nat.mod_add_div (x &&& y) (2 ^ 8)
  rw [Nat.and_mod_two_pow, Nat.and_div_two_pow] at h
  exact h.symm
theorem and4 {a b c d m : Nat} (ha : a < 256) (hb : b < 256) (hc : c < 256) (hd : d < 256) (hm : m < 256) : by4 a b c d &&& by4 m m m m = by4 (a &&& m) (b &&& m) (c &&& m) (d &&& m) := by
  unfold by4
  rw [and_s, show (a + 256 * b + 65536 * c + 16777216 * d) % 256 = a by omega, show (m + 256 * m + 65536 * m + 16777216 * m) % 256 = m by omega, show (a + 256 * b + 65536 * c + 16777216 * d) / 256 = b + 256 * c + 65536 * d by omega, show (m + 256 * m + 65536 * m + 16777216 * m) / 256 = m + 256 * m + 65536 * m by omega]
  rw [and_s (b + 256 * c + 65536 * d), show (b + 256 * c + 65536 * d) % 256 = b by omega, show (m + 256 * m + 65536 * m) % 256 = m by omega, show (b + 256 * c + 65536 * d) / 256 = c + 256 * d by omega, show (m + 256 * m + 65536 * m) / 256 = m + 256 * m by omega]
  rw [and_s (c + 256 * d), show (c + 256 * d) % 256 = c by omega, show (m + 256 * m) % 256 = m by omega, show (c + 256 * d) / 256 = d by omega, show (m + 256 * m) / 256 = m by omega]
  omega
def p8 (a : Nat) : Nat := fb_ct (fun i => a.testBit i) 8
def u8 (a : Nat) : Nat := a - (a / 2 &&& 85)
def v8 (a : Nat) : Nat := (u8 a &&& 51) + (u8 a / 4 &&& 51)
theorem s_1 : ∀ a, a < 256 → ∀ t, t < 2 → (a / 2 + 128 * t) &&& 85 = a / 2 &&& 85 := by decide +kernel
theorem s_2 : ∀ a, a < 256 → ∀ t, t < 4 → (a / 4 + 64 * t) &&& 51 = a / 4 &&& 51 := by decide +kernel
theorem w_8 : ∀ a, a < 256 → (a / 2 &&& 85) ≤ a ∧ u8 a < 256 ∧ v8 a ≤ 68 ∧ (v8 a + v8 a / 16) % 16 = p8 a ∧ p8 a ≤ 8 ∧ v8 a % 16 ≤ 4 := by decide +kernel
theorem fin4 {a b c d : Nat} (ha : a ≤ 8) (hb : b ≤ 8) (hc : c ≤ 8) (hd : d ≤ 8) : (by4 a b c d + by4 a b c d / 2 ^ 8 + (by4 a b c d + by4 a b c d / 2 ^ 8) / 2 ^ 16) % 64 = a + b + c + d := by
  have e1 : by4 a b c d / 2 ^ 8 = b + 256 * c + 65536 * d := by unfold by4; omega
  have e2 : (by4 a b c d + (b + 256 * c + 65536 * d)) / 2 ^ 16 = c + d + 256 * d := by unfold by4; omega
  rw [e1, e2]; unfold by4; omega
theorem bc_4 {a b c d : Nat} (ha : a < 256) (hb : b < 256) (hc : c < 256) (hd : d < 256) : fJ6_bitCount_0f7a4 (nI (by4 a b c d)) = nI (p8 a + p8 b + p8 c + p8 d) := by
  obtain ⟨a1, a2, a3, a4, a5, a6⟩ := w_8 a ha
  obtain ⟨b1, b2, b3, b4, b5, b6⟩ := w_8 b hb
  obtain ⟨c1, c2, c3, c4, c5, c6⟩ := w_8 c hc
  obtain ⟨d1, d2, d3, d4, d5, d6⟩ := w_8 d hd
  have hx : by4 a b c d < 2 ^ 32 := by unfold by4; omega
  have hu : by4 (u8 a) (u8 b) (u8 c) (u8 d) < 2 ^ 32 := by unfold by4; omega
  have hv : by4 (v8 a) (v8 b) (v8 c) (v8 d) < 2 ^ 32 := by unfold by4; omega
  have hw : by4 (p8 a) (p8 b) (p8 c) (p8 d) < 2 ^ 31 := by unfold by4; omega
  have e1 : nI (by4 a b c d) - (ushr (nI (by4 a b c d)) 1 &&& 1431655765) = nI (by4 (u8 a) (u8 b) (u8 c) (u8 d)) := by
    rw [show (1 : Int32) = nI 1 from rfl, n_ushr hx (by omega), show (1431655765 : Int32) = nI (by4 85 85 85 85) from rfl, n_and]
    have q : by4 a b c d / 2 ^ 1 = by4 (a / 2 + 128 * (b % 2)) (b / 2 + 128 * (c % 2)) (c / 2 + 128 * (d % 2)) (d / 2 + 128 * 0) := by unfold by4; omega
    rw [q, and4 (by omega) (by omega) (by omega) (by omega) (by omega), s_1 a ha _ (by omega), s_1 b hb _ (by omega), s_1 c hc _ (by omega), s_1 d hd _ (by omega), n_sub (by unfold by4; omega)]
    congr 1
    unfold by4 u8
    omega
  have e2 : (nI (by4 (u8 a) (u8 b) (u8 c) (u8 d)) &&& 858993459) + (ushr (nI (by4 (u8 a) (u8 b) (u8 c) (u8 d))) 2 &&& 858993459) = nI (by4 (v8 a) (v8 b) (v8 c) (v8 d)) := by
    rw [show (2 : Int32) = nI 2 from rfl, n_ushr hu (by omega), show (858993459 : Int32) = nI (by4 51 51 51 51) from rfl, n_and, n_and]
    have q : by4 (u8 a) (u8 b) (u8 c) (u8 d) / 2 ^ 2 = by4 (u8 a / 4 + 64 * (u8 b % 4)) (u8 b / 4 + 64 * (u8 c % 4)) (u8 c / 4 + 64 * (u8 d % 4)) (u8 d / 4 + 64 * 0) := by unfold by4; omega
    rw [q, and4 a2 b2 c2 d2 (by omega), and4 (by omega) (by omega) (by omega) (by omega) (by omega), s_2 _ a2 _ (by omega), s_2 _ b2 _ (by omega), s_2 _ c2 _ (by omega), s_2 _ d2 _ (by omega), nI_add]
    congr 1
    unfold by4 v8
    omega
  have e3 : (nI (by4 (v8 a) (v8 b) (v8 c) (v8 d)) + ushr (nI (by4 (v8 a) (v8 b) (v8 c) (v8 d))) 4) &&& 252645135 = nI (by4 (p8 a) (p8 b) (p8 c) (p8 d)) := by
    rw [show (4 : Int32) = nI 4 from rfl, n_ushr hv (by omega), nI_add, show (252645135 : Int32) = nI (by4 15 15 15 15) from rfl, n_and]
    have q : by4 (v8 a) (v8 b) (v8 c) (v8 d) + by4 (v8 a) (v8 b) (v8 c) (v8 d) / 2 ^ 4 = by4 (v8 a + v8 a / 16 + 16 * (v8 b % 16)) (v8 b + v8 b / 16 + 16 * (v8 c % 16)) (v8 c + v8 c / 16 + 16 * (v8 d % 16)) (v8 d + v8 d / 16 + 16 * 0) := by unfold by4; omega
    have m15 : ∀ x, x &&& 15 = x % 16 := fun x => Nat.and_two_pow_sub_one_eq_mod x 4
    rw [q]
    clear q hx hu hv hw e1 e2
    rw [and4 (by omega) (by omega) (by omega) (by omega) (by omega), m15, m15, m15, m15, Nat.add_mul_mod_self_left, Nat.add_mul_mod_self_left, Nat.add_mul_mod_self_left, Nat.add_mul_mod_self_left, a4, b4, c4, d4]
  have e4 : nI (by4 (p8 a) (p8 b) (p8 c) (p8 d)) + ushr (nI (by4 (p8 a) (p8 b) (p8 c) (p8 d))) 8 = nI (by4 (p8 a) (p8 b) (p8 c) (p8 d) + by4 (p8 a) (p8 b) (p8 c) (p8 d) / 2 ^ 8) := by
    rw [show (8 : Int32) = nI 8 from rfl, n_ushr (by omega) (by omega), nI_add]
  unfold fJ6_bitCount_0f7a4
  rw [e1, e2, e3, e4, show (16 : Int32) = nI 16 from rfl, n_ushr (by omega) (by omega), nI_add, show (63 : Int32) = nI 63 from rfl, n_and]
  have m63 : ∀ x, x &&& 63 = x % 64 := fun x => Nat.and_two_pow_sub_one_eq_mod x 6
  rw [m63, fin4 a5 b5 c5 d5]
theorem ct_s {a r : Nat} (ha : a < 256) (m : Nat) : fb_ct (fun i => (a + 256 * r).testBit i) (8 + m) = p8 a + fb_ct (fun i => r.testBit i) m := by
  rw [fb_ct_split]
  have q : ∀ j, (a + 256 * r).testBit j = if j < 8 then a.testBit j else r.testBit (j - 8) := fun j => by
    rw [Nat.add_comm]; exact Nat.testBit_two_pow_mul_add r (i := 8) ha j
  congr 1
  · exact fb_ct_cong (fun k hk => by show (a + 256 * r).testBit k = a.testBit k; rw [q, if_pos hk])
  · exact fb_ct_cong (fun k hk => by show (a + 256 * r).testBit (8 + k) = r.testBit k; rw [q, if_neg (by omega), show 8 + k - 8 = k by omega])
def pc (n : Nat) : Nat := fb_ct (fun i => n.testBit i) 32
theorem pc_4 {a b c d : Nat} (ha : a < 256) (hb : b < 256) (hc : c < 256) (hd : d < 256) : pc (by4 a b c d) = p8 a + p8 b + p8 c + p8 d := by
  have e : by4 a b c d = a + 256 * (b + 256 * (c + 256 * (d + 256 * 0))) := by unfold by4; omega
  rw [e]
  unfold pc
  have z : fb_ct (fun i => (0 : Nat).testBit i) 0 = 0 := rfl
  rw [ct_s ha 24, ct_s hb 16, ct_s hc 8, ct_s hd 0, z]
  omega
theorem bc_any {n : Nat} (h : n < 2 ^ 32) : fJ6_bitCount_0f7a4 (nI n) = nI (pc n) := by
  have e : n = by4 (n % 256) (n / 256 % 256) (n / 65536 % 256) (n / 16777216) := by unfold by4; omega
  rw [e, bc_4 (by omega) (by omega) (by omega) (by omega), pc_4 (by omega) (by omega) (by omega) (by omega)]
theorem pc_step {m : Nat} (hm : m < 2 ^ 32) (h0 : m ≠ 0) : pc (m &&& (m - 1)) + 1 = pc m := by
  obtain ⟨l, q, rfl⟩ := low2 (m + 1) m (by omega) h0
  have hl : l < 32 := by
    have : 2 ^ l < 2 ^ 32 := Nat.lt_of_le_of_lt (Nat.le_mul_of_pos_right _ (by omega)) hm
    exact (Nat.pow_lt_pow_iff_right (by decide)).mp this
  have hp : 0 < 2 ^ l := Nat.two_pow_pos l
  have e : 2 ^ l * (2 * q + 1) - 1 = 2 ^ l * (2 * q) + (2 ^ l - 1) := by rw [Nat.mul_add, Nat.mul_one]; omega
  have k := fb_ct_upd (fun i => (2 ^ l * (2 * q + 1)).testBit i) false (i := l) (n := 32) hl
  have t : (2 ^ l * (2 * q + 1)).testBit l = true := by rw [tb_l, decide_eq_true (Nat.le_refl l), if_pos rfl]; rfl
  have k2 : pc (2 ^ l * (2 * q + 1) &&& (2 ^ l * (2 * q + 1) - 1)) = fb_ct (fun k => if k = l then false else (2 ^ l * (2 * q + 1)).testBit k) 32 := by
    refine fb_ct_cong (fun i hi => ?_)
    show (2 ^ l * (2 * q + 1) &&& (2 ^ l * (2 * q + 1) - 1)).testBit i = if i = l then false else (2 ^ l * (2 * q + 1)).testBit i
    rw [Nat.testBit_and, e, Nat.testBit_two_pow_mul_add _ (show 2 ^ l - 1 < 2 ^ l by omega), tb_l]
    by_cases e1 : i = l
    · subst e1
      rw [if_neg (Nat.lt_irrefl i), Nat.sub_self, if_pos rfl, if_pos rfl, Nat.testBit_zero]
      simp
    · rw [if_neg e1, if_neg e1]
      by_cases e2 : l ≤ i
      · obtain ⟨j, rfl⟩ : ∃ j, i = l + 1 + j := ⟨i - l - 1, by omega⟩
        rw [if_neg (by omega), decide_eq_true e2, show l + 1 + j - l = j + 1 by omega, Nat.testBit_succ, show 2 * q / 2 = q by omega, show j + 1 - 1 = j by omega]
        simp
      · rw [decide_eq_false e2]; rfl
  have k' : fb_ct (fun k => if k = l then false else (2 ^ l * (2 * q + 1)).testBit k) 32 + (if (2 ^ l * (2 * q + 1)).testBit l = true then 1 else 0) = pc (2 ^ l * (2 * q + 1)) + (if false = true then 1 else 0) := k
  rw [if_pos t, if_neg (by decide)] at k'
  rw [k2]; exact k'
theorem ones_lp : ∀ (n c m : Nat), m < 2 ^ 32 → pc m < n → fX5_ones_4 n (nI c) (nI m) = some (nI (c + pc m)) := by
  intro n
  induction n with
  | zero => intro c m _ h; omega
  | succ n ih =>
    intro c m hm hn
    rw [qX5_ones_4]
    by_cases e : m = 0
    · subst e
      rw [if_pos (show nI 0 = 0 from rfl)]; rfl
    · rw [if_neg (fun q => e ((n_0 hm).mp q)), ns1, show nI m - 1 = nI (m - 1) from n_sub (b := 1) (by omega), n_and]
      have s := pc_step hm e
      rw [ih (c + 1) (m &&& (m - 1)) (Nat.lt_of_le_of_lt Nat.and_le_left hm) (by omega)]
      congr 2
      omega
theorem ones_any (x : Int32) : fX5_ones x = some (fJ6_bitCount_0f7a4 x) := by
  obtain ⟨n, hn, rfl⟩ := n_any x
  have hp : pc n ≤ 32 := fb_ct_le _ 32
  have q := ones_lp fu 0 n hn (by show _ < 200; omega)
  rw [bc_any hn]
  rw [Nat.zero_add] at q
  exact q
theorem sim_count : SimT_count Rel := by
  intro Mx Nx Mm Nm h x1
  show Eq2 Nx Nm _ _
  unfold fX4_count fX5_count
  by_cases c0 : x1 = 0
  · rw [if_pos c0, if_pos c0, h.e (k := 1) (by omega)]; exact h.ok _
  rw [if_neg c0, if_neg c0]
  by_cases c1 : x1 = 1
  · rw [if_pos c1, if_pos c1, h.2.2.2.1.1]; exact h.ok _
  rw [if_neg c1, if_neg c1]
  by_cases c2 : x1 = 2
  · rw [if_pos c2, if_pos c2, ones_any, bind_some', h.e (k := 2) (by omega)]; exact h.ok _
  rw [if_neg c2, if_neg c2]
  by_cases c3 : x1 = 3
  · obtain ⟨v, e1, e2⟩ := q_tipped h.1
    rw [if_pos c3, if_pos c3, e1, e2, bind_some', bind_some']; exact h.ok _
  rw [if_neg c3, if_neg c3]
  exact h.f0
