/-! island: tortoises -/
theorem Rs.pre {b : Nat → Nat} {n a0 : Nat} {A B C D : Mi} {X : Option (Int32 × Mi)} {Y : Option Mi} (h : Rs b n B D a0 X Y) (f : FX A B) (g : FM C D) : Rs b n A C a0 X Y := by
  obtain ⟨r, M1, M2, e1, e2, f1, f2, hr⟩ := h
  exact ⟨r, M1, M2, e1, e2, f.tr f1, g.tr f2, hr⟩
theorem tort_95 {b : Nat → Nat} {n a a0 k c m : Nat} {Mx Mm : Mi} (h : Sj b n Mx Mm a) (ha : a0 < a) (hE : Eqv (Mx 1) (Mm 0)) (hz : sz (Mx 1) < 8) (hk : k < 6) (hc : c < 30) (hm : m < 4096) : Rs b n Mx Mm a0 (fX3_tellsTortoise_95 Mx (nI k) (nI c) (nI m)) (fX5_tortoiseItem_102 Mm (nI k) (nI c) (nI m)) := by
  have e1m : Mm 0 1 = nI (sz (Mx 1)) := (hE.e (by omega)).trans hE.1.z
  unfold fX3_tellsTortoise_95 fX5_tortoiseItem_102
  rw [comesX hE.1 hz, bind_some', if_pos h.2.2.2.2, addsM e1m hz, bind_some']
  refine ⟨_, _, _, rfl, rfl, FX_s _ _, FM_s _ _, Or.inr ⟨rfl, a, ha, h.s _ _, ?_⟩⟩
  rw [sR_same, sR_same]
  exact eqv_grow hE hz (vl_7 ⟨k, hk, rfl⟩) (vl_8 ⟨c, hc, rfl⟩) (vl_9 ⟨m, hm, rfl⟩) (vl_10 (Or.inl rfl))
theorem tort_w {M : Mi} (h6 : M 6 6 = 1) {f : Nat} (x y z : Int32) : fX5_tortoiseItem_51 (f + 1) M x y z = some M := by
  have e : ¬ M 6 6 = 0 := by rw [h6]; exact n10
  rw [qX5_tortoiseItem_51, if_neg e]
  unfold fX5_tortoiseItem_102
  rw [if_neg e]
theorem tort_lp {b : Nat → Nat} {n a0 k c : Nat} (hk : k < 6) (hc : c < 30) : ∀ (f a m i : Nat) (Mx Mm : Mi), a0 < a → Sj b n Mx Mm a → Eqv (Mx 1) (Mm 0) → sz (Mx 1) < 8 → m < 4096 → i ≤ a → n - a < f → Rs b n Mx Mm a0 (fX3_tellsTortoise_51 f Mx (nI k) (nI c) (nI m) (nI i)) (fX5_tortoiseItem_51 f Mm (nI k) (nI c) (nI m)) := by
  intro f
  induction f with
  | zero => intro a m i Mx Mm _ _ _ _ _ _ q; omega
  | succ f ih =>
    intro a m i Mx Mm ha h hE hz hm hi hf
    have hn := h.1.1
    have han := h.2.2.1.1
    have hkb := kd_b (b := b) (n := n) (a := a)
    rw [qX3_tellsTortoise_51, qX5_tortoiseItem_51, if_pos h.2.2.2.2, h.2.2.2.1.2.1, byteM h.2.1 han, bind_some', dgB h.2.1, h.2.2.1.2.2.2.1]
    by_cases e : a < n ∧ dg' (b a) = true
    · rw [if_neg (show ¬ (120 : Int32) ≤ nI i from fun z => by have := (nle (a := 120) (by omega) (by omega)).mp z; omega), if_pos (show nI (kd b n a) = 2 by rw [kd_2.mpr e]; rfl), if_pos e, if_neg n10]
      rcases num h (lo := 0) (hi := 11) (by omega) (by omega) with ⟨Mm2, p1, p2, p3, p4⟩ | ⟨v, Mx2, Mm2, _, hv, hk2, p1, p2, p3, p4, p5, p6, p7⟩
      · have p1' : fX3_takesNumber Mx 0 11 = some (0, Mx) := p1
        have p2' : fX5_number Mm 0 11 = some Mm2 := p2
        have p4' := p4
        obtain ⟨_, a', s1, s2, s3⟩ := p4'
        obtain ⟨f', rfl⟩ : ∃ f', f = f' + 1 := ⟨f - 1, by omega⟩
        rw [p1', bind_some', p2', bind_some']
        dsimp only
        rw [if_pos z00, if_neg (by rw [s3]; exact n10), tort_w s3]
        exact ⟨_, _, _, rfl, rfl, FX.rfl' _, p3.x, Or.inl ⟨rfl, p4⟩⟩
      · have p1' : fX3_takesNumber Mx 0 11 = some (1, Mx2) := p1
        have p2' : fX5_number Mm 0 11 = some Mm2 := p2
        have t := tN_b (b := b) han
        have t2 := t.2 hk2
        obtain ⟨c1, hc1, ec1⟩ := sh_12 v (by omega)
        obtain ⟨c2, hc2, ec2⟩ := or_12 hm hc1
        rw [p1', bind_some', p2', bind_some']
        dsimp only
        rw [if_neg n10, if_pos p5.2.2.2.2, p6, p7, ec1, ec2, ns1]
        have hE2 : Eqv (Mx2 1) (Mm2 0) := by rw [p3.1 1 (by omega), p4.1 0 (by omega)]; exact hE
        have hz2 : sz (Mx2 1) < 8 := by rw [p3.1 1 (by omega)]; exact hz
        exact (ih (tN b n a) c2 (i + 1) Mx2 Mm2 (by omega) p5 hE2 hz2 hc2 (by omega) (by omega)).pre p3.x p4.x
    · rw [if_neg e, if_pos z00, if_neg (show ¬ nI (kd b n a) = 2 from fun z => e (kd_2.mp ((neq (b := 2) (by omega) (by omega)).mp z)))]
      have q := tort_95 h ha hE hz hk hc hm
      by_cases z : (120 : Int32) ≤ nI i
      · rw [if_pos z]; exact q
      · rw [if_neg z]; exact q
theorem t37_w {M : Mi} (h6 : M 6 6 = 1) (x s : Int32) : fX5_tortoiseItem_37 M x s = some M := by
  unfold fX5_tortoiseItem_37
  rw [w_w h6, bind_some', c_1 (n_w h6 0 29), bind_some']
  exact tort_w h6 (f := 199) _ _ _
theorem t37_0 {M : Mi} (x : Int32) : fX5_tortoiseItem_37 M x 0 = some (wM M 6 6 1) := by
  have h6 : (wM M 6 6 1) 6 6 = 1 := by rw [wM_at, pk_us]
  unfold fX5_tortoiseItem_37
  rw [w_0, bind_some', c_1 (n_w h6 0 29), bind_some']
  exact tort_w h6 (f := 199) _ _ _
theorem it_tort {b : Nat → Nat} {n : Nat} {Mx Mm : Mi} {a : Nat} (h : Sj b n Mx Mm a) (ha : a < n) (hE : Eqv (Mx 1) (Mm 0)) {k : Nat} (hk : k < 6) : Rs b n Mx Mm a (fX3_tellsTortoise Mx (nI k)) (fX5_tortoiseItem Mm (nI k)) := by
  have hn := h.1.1
  have hz8 := hE.1.le
  have e1m : Mm 0 1 = nI (sz (Mx 1)) := (hE.e (by omega)).trans hE.1.z
  unfold fX3_tellsTortoise fX5_tortoiseItem fX5_tortoiseItem_17 fX0_isFull
  rw [hE.1.z, e1m]
  by_cases e8 : sz (Mx 1) < 8
  · obtain ⟨Mx1, Mm1, q1, r1, q2, r2, h1⟩ := adv h
    have t1 := tN_b (b := b) h.2.2.1.1
    have t2 := tN_b (b := b) h1.2.2.1.1
    have t3 := t1.2 ha
    have l6 : lN (Wn b n (tN b n a)) = (52 : Int64) ↔ Wn b n (tN b n a) = Kw 6 := lw (K := 52) (by omega) (by decide +kernel)
    rw [if_pos (show nI (sz (Mx 1)) < 8 from (nlt (b := 8) (by omega) (by omega)).mpr e8), if_pos z00, if_neg (show ¬ (8 : Int32) ≤ nI (sz (Mx 1)) from fun z => by have := (nle (a := 8) (by omega) (by omega)).mp z; omega), q1, bind_some', w_1 h.2.2.2.2 r1, bind_some', isW h1.1 (w := 6) (by omega) h1.2.2.1, bind_some', wordM h1.2.1 h1.2.2.2.1 h1.2.2.2.2, bind_some']
    by_cases e : Wn b n (tN b n a) = Kw 6
    · obtain ⟨Mx2, Mm2, q3, r3, q4, r4, h2⟩ := adv h1
      have t4 := tN_b (b := b) h2.2.2.1.1
      have lt3 : tN b n a < n := by
        refine Decidable.byContradiction (fun z => ?_)
        have w0 : Wn b n (tN b n a) = 0 := by unfold Wn; rw [if_neg (fun y => z y.1)]
        have := Kw_c 6 (by omega)
        omega
      have t5 := t2.2 lt3
      rw [if_pos e, if_neg n10, if_pos (l6.mpr e), q3, bind_some']
      unfold fX5_tortoiseItem_37
      rw [w_1 h1.2.2.2.2 r3, bind_some']
      rcases num h2 (lo := 0) (hi := 29) (by omega) (by omega) with ⟨Mm3, p1, p2, p3, p4⟩ | ⟨v, Mx3, Mm3, _, hv, hk2, p1, p2, p3, p4, p5, p6, p7⟩
      · have p1' : fX3_takesNumber Mx2 0 29 = some (0, Mx2) := p1
        have p4' := p4
        obtain ⟨_, a', s1, s2, s3⟩ := p4'
        rw [p1', bind_some', c_1 p2, bind_some']
        dsimp only
        rw [if_pos z00, show fX5_tortoiseItem_51 fu Mm3 (nI k) (Mm3 6 5) 0 = some Mm3 from tort_w s3 (f := 199) _ _ _]
        exact ⟨_, _, _, rfl, rfl, (q2.g.tr q4.g).x, ((r2.g.tr r4.g).tr p3).x, Or.inl ⟨rfl, p4⟩⟩
      · have p1' : fX3_takesNumber Mx2 0 29 = some (1, Mx3) := p1
        have g1 := (q2.g.tr q4.g).tr p3
        have g2 := (r2.g.tr r4.g).tr p4
        have t6 := t4.2 hk2
        have hE3 : Eqv (Mx3 1) (Mm3 0) := by rw [g1.1 1 (by omega), g2.1 0 (by omega)]; exact hE
        have hz3 : sz (Mx3 1) < 8 := by rw [g1.1 1 (by omega)]; exact e8
        rw [p1', bind_some', c_1 p2, bind_some']
        dsimp only
        rw [if_neg n10, p6, p7]
        have q := tort_lp (b := b) (n := n) (a0 := a) (c := v) hk (by omega) fu _ 0 0 Mx3 Mm3 (by omega) p5 hE3 hz3 (by omega) (by omega) (by show _ < 200; omega)
        exact q.pre g1.x g2.x
    · rw [if_neg e, if_pos z00, if_neg (fun z => e (l6.mp z)), t37_0]
      exact ⟨_, _, _, rfl, rfl, q2.g.x, (r2.g.tr (G6_w _ _ (by omega) (by omega))).x, Or.inl ⟨rfl, h1.w0⟩⟩
  · have w := h.w0
    have w' := w
    obtain ⟨s0, a', s1, s2, s3⟩ := w'
    rw [if_neg (show ¬ nI (sz (Mx 1)) < 8 from fun z => e8 ((nlt (b := 8) (by omega) (by omega)).mp z)), if_neg n10, if_pos (show (8 : Int32) ≤ nI (sz (Mx 1)) from (nle (a := 8) (by omega) (by omega)).mpr (by omega)), w_0, bind_some', wordW s0 s2 (by rw [s3]; exact n10), bind_some', if_neg (show ¬ (0 : Int64) = 52 by decide), t37_w s3]
    exact ⟨_, _, _, rfl, rfl, FX.rfl' _, (G6_w _ _ (by omega) (by omega)).x, Or.inl ⟨rfl, w⟩⟩
/-! an item -/
def kf (W : Nat) : Int32 := if W = Kw 5 then 0 else if W = Kw 0 then 1 else if W = Kw 1 then 2 else if W = Kw 2 then 3 else if W = Kw 3 then 4 else if W = Kw 4 then 5 else -1
theorem kf_c (W : Nat) : kf W = -1 ∨ ∃ k, k < 6 ∧ kf W = nI k := by
  unfold kf
  by_cases e5 : W = Kw 5
  · exact Or.inr ⟨0, by omega, by rw [if_pos e5]; rfl⟩
  by_cases e0 : W = Kw 0
  · exact Or.inr ⟨1, by omega, by rw [if_neg e5, if_pos e0]; rfl⟩
  by_cases e1 : W = Kw 1
  · exact Or.inr ⟨2, by omega, by rw [if_neg e5, if_neg e0, if_pos e1]; rfl⟩
  by_cases e2 : W = Kw 2
  · exact Or.inr ⟨3, by omega, by rw [if_neg e5, if_neg e0, if_neg e1, if_pos e2]; rfl⟩
  by_cases e3 : W = Kw 3
  · exact Or.inr ⟨4, by omega, by rw [if_neg e5, if_neg e0, if_neg e1, if_neg e2, if_pos e3]; rfl⟩
  by_cases e4 : W = Kw 4
  · exact Or.inr ⟨5, by omega, by rw [if_neg e5, if_neg e0, if_neg e1, if_neg e2, if_neg e3, if_pos e4]; rfl⟩
  exact Or.inl (by rw [if_neg e5, if_neg e0, if_neg e1, if_neg e2, if_neg e3, if_neg e4])
theorem kst {b : Nat → Nat} {n a : Nat} {M : Mi} (h : Tx b n M) (hx : Lx b n M a) {f w : Nat} {x : Int32} (hx6 : ¬ 6 ≤ x) (hn : fX3_nameOf x = w) (hw : w < 14) : fX3_kindTold_2 M (f + 1) x = if Wn b n a = Kw w then some x else fX3_kindTold_2 M f (x + 1) := by
  rw [qX3_kindTold_2, if_neg hx6, hn, isW h hw hx, bind_some']
  by_cases e : Wn b n a = Kw w
  · rw [if_pos e, if_pos e, if_neg n10]
  · rw [if_neg e, if_neg e, if_pos z00]
theorem kindX {b : Nat → Nat} {n a : Nat} {M : Mi} (h : Tx b n M) (hx : Lx b n M a) : fX3_kindTold M = some (kf (Wn b n a)) := by
  have s0 : fX3_kindTold M = if Wn b n a = Kw 5 then some 0 else fX3_kindTold_2 M 199 1 := kst h hx (f := 199) (x := 0) (w := 5) (by decide) (by decide +kernel) (by omega)
  have s1 : fX3_kindTold_2 M 199 1 = if Wn b n a = Kw 0 then some 1 else fX3_kindTold_2 M 198 2 := kst h hx (f := 198) (x := 1) (w := 0) (by decide) (by decide +kernel) (by omega)
  have s2 : fX3_kindTold_2 M 198 2 = if Wn b n a = Kw 1 then some 2 else fX3_kindTold_2 M 197 3 := kst h hx (f := 197) (x := 2) (w := 1) (by decide) (by decide +kernel) (by omega)
  have s3 : fX3_kindTold_2 M 197 3 = if Wn b n a = Kw 2 then some 3 else fX3_kindTold_2 M 196 4 := kst h hx (f := 196) (x := 3) (w := 2) (by decide) (by decide +kernel) (by omega)
  have s4 : fX3_kindTold_2 M 196 4 = if Wn b n a = Kw 3 then some 4 else fX3_kindTold_2 M 195 5 := kst h hx (f := 195) (x := 4) (w := 3) (by decide) (by decide +kernel) (by omega)
  have s5 : fX3_kindTold_2 M 195 5 = if Wn b n a = Kw 4 then some 5 else fX3_kindTold_2 M 194 6 := kst h hx (f := 194) (x := 5) (w := 4) (by decide) (by decide +kernel) (by omega)
  have s6 : fX3_kindTold_2 M (193 + 1) 6 = some (-1) := by rw [qX3_kindTold_2, if_pos (by decide)]
  have s6' : fX3_kindTold_2 M 194 6 = some (-1) := s6
  rw [s0, s1, s2, s3, s4, s5, s6']
  unfold kf
  by_cases e5 : Wn b n a = Kw 5
  · rw [if_pos e5, if_pos e5]
  rw [if_neg e5, if_neg e5]
  by_cases e0 : Wn b n a = Kw 0
  · rw [if_pos e0, if_pos e0]
  rw [if_neg e0, if_neg e0]
  by_cases e1 : Wn b n a = Kw 1
  · rw [if_pos e1, if_pos e1]
  rw [if_neg e1, if_neg e1]
  by_cases e2 : Wn b n a = Kw 2
  · rw [if_pos e2, if_pos e2]
  rw [if_neg e2, if_neg e2]
  by_cases e3 : Wn b n a = Kw 3
  · rw [if_pos e3, if_pos e3]
  rw [if_neg e3, if_neg e3]
  by_cases e4 : Wn b n a = Kw 4
  · rw [if_pos e4, if_pos e4]
  rw [if_neg e4, if_neg e4]
theorem kindM {b : Nat → Nat} {n a : Nat} {M : Mi} (h : Tm b n M) (hm : Lm b n M a) (h6 : M 6 6 = 0) : fX5_kindHere M = some (kf (Wn b n a)) := by
  have l5 : lN (Wn b n a) = (703926347365 : Int64) ↔ Wn b n a = Kw 5 := lw (K := 703926347365) (by omega) (by decide +kernel)
  have l0 : lN (Wn b n a) = (26727879 : Int64) ↔ Wn b n a = Kw 0 := lw (K := 26727879) (by omega) (by decide +kernel)
  have l1 : lN (Wn b n a) = (12343 : Int64) ↔ Wn b n a = Kw 1 := lw (K := 12343) (by omega) (by decide +kernel)
  have l2 : lN (Wn b n a) = (15748 : Int64) ↔ Wn b n a = Kw 2 := lw (K := 15748) (by omega) (by decide +kernel)
  have l3 : lN (Wn b n a) = (551282815156 : Int64) ↔ Wn b n a = Kw 3 := lw (K := 551282815156) (by omega) (by decide +kernel)
  have l4 : lN (Wn b n a) = (3193326 : Int64) ↔ Wn b n a = Kw 4 := lw (K := 3193326) (by omega) (by decide +kernel)
  unfold fX5_kindHere kf
  rw [wordM h hm h6, bind_some']
  by_cases e5 : Wn b n a = Kw 5
  · rw [if_pos (l5.mpr e5), if_pos e5]
  rw [if_neg (fun z => e5 (l5.mp z)), if_neg e5]
  by_cases e0 : Wn b n a = Kw 0
  · rw [if_pos (l0.mpr e0), if_pos e0]
  rw [if_neg (fun z => e0 (l0.mp z)), if_neg e0]
  by_cases e1 : Wn b n a = Kw 1
  · rw [if_pos (l1.mpr e1), if_pos e1]
  rw [if_neg (fun z => e1 (l1.mp z)), if_neg e1]
  by_cases e2 : Wn b n a = Kw 2
  · rw [if_pos (l2.mpr e2), if_pos e2]
  rw [if_neg (fun z => e2 (l2.mp z)), if_neg e2]
  by_cases e3 : Wn b n a = Kw 3
  · rw [if_pos (l3.mpr e3), if_pos e3]
  rw [if_neg (fun z => e3 (l3.mp z)), if_neg e3]
  by_cases e4 : Wn b n a = Kw 4
  · rw [if_pos (l4.mpr e4), if_pos e4]
  rw [if_neg (fun z => e4 (l4.mp z)), if_neg e4]
theorem Rs.nn {b : Nat → Nat} {n a0 : Nat} {A C : Mi} {X : Option (Int32 × Mi)} {Y : Option Mi} (h : Rs b n A C a0 X Y) : Rs b n A C a0 (Option.bind X (fun a => if a.1 = 0 ∨ a.1 = 1 then some (a.1, a.2) else none)) (Option.bind Y (fun a => some a)) := by
  obtain ⟨r, M1, M2, e1, e2, f1, f2, hr⟩ := h
  have h01 : r = 0 ∨ r = 1 := hr.elim (fun q => Or.inl q.1) (fun q => Or.inr q.1)
  rw [e1, e2, bind_some', bind_some']
  dsimp only
  rw [if_pos h01]
  exact ⟨r, M1, M2, rfl, rfl, f1, f2, hr⟩
theorem Rs.nb {b : Nat → Nat} {n a0 : Nat} {A C : Mi} {X : Option (Int32 × Mi)} {Y : Option Mi} (h : Rs b n A C a0 X Y) : Rs b n A C a0 (Option.bind X (fun a => if a.1 = 0 then some (0, a.2) else some (1, a.2))) (Option.bind Y (fun a => some a)) := by
  obtain ⟨r, M1, M2, e1, e2, f1, f2, hr⟩ := h
  rw [e1, e2, bind_some', bind_some']
  dsimp only
  rcases hr with ⟨rfl, hr⟩ | ⟨rfl, hr⟩
  · rw [if_pos z00]; exact ⟨_, M1, M2, rfl, rfl, f1, f2, Or.inl ⟨rfl, hr⟩⟩
  · rw [if_neg n10]; exact ⟨_, M1, M2, rfl, rfl, f1, f2, Or.inr ⟨rfl, hr⟩⟩
theorem place_w (M : Mi) : fX5_placeItem M (-1) = some (wM M 6 6 1) := by
  have h6 : (wM M 6 6 1) 6 6 = 1 := by rw [wM_at, pk_us]
  unfold fX5_placeItem fX5_placeItem_10
  rw [if_pos (show (-1 : Int32) < 0 by decide), w_0, bind_some', c_1 (n_w h6 0 29), bind_some', if_neg (by rw [h6]; exact n10)]
theorem it_item {b : Nat → Nat} {n : Nat} {Mx Mm : Mi} {a : Nat} (h : Sj b n Mx Mm a) (hE : Eqv (Mx 1) (Mm 0)) : Rs b n Mx Mm a (fX3_tellsItem Mx) (fX5_item Mm) := by
  have hn := h.1.1
  have hkb := kd_b (b := b) (n := n) (a := a)
  have l7 : lN (Wn b n a) = (6469733 : Int64) ↔ Wn b n a = Kw 7 := lw (K := 6469733) (by omega) (by decide +kernel)
  have l8 : lN (Wn b n a) = (215205 : Int64) ↔ Wn b n a = Kw 8 := lw (K := 215205) (by omega) (by decide +kernel)
  have l9 : lN (Wn b n a) = (591150 : Int64) ↔ Wn b n a = Kw 9 := lw (K := 591150) (by omega) (by decide +kernel)
  have l11 : lN (Wn b n a) = (654910919 : Int64) ↔ Wn b n a = Kw 11 := lw (K := 654910919) (by omega) (by decide +kernel)
  have l12 : lN (Wn b n a) = (20186245 : Int64) ↔ Wn b n a = Kw 12 := lw (K := 20186245) (by omega) (by decide +kernel)
  have l13 : lN (Wn b n a) = (2262120 : Int64) ↔ Wn b n a = Kw 13 := lw (K := 2262120) (by omega) (by decide +kernel)
  unfold fX3_tellsItem fX5_item
  rw [kindM h.2.1 h.2.2.2.1 h.2.2.2.2, bind_some', wordM h.2.1 h.2.2.2.1 h.2.2.2.2, bind_some', h.2.2.1.2.2.2.1]
  unfold fX5_placeHere fX5_item_38 fX5_item_52
  rw [wordM h.2.1 h.2.2.2.1 h.2.2.2.2, bind_some']
  by_cases e : a < n ∧ lt' (b a) = true
  · rw [if_pos (show nI (kd b n a) = 1 by rw [kd_1.mpr e]; rfl), kindX h.1 h.2.2.1, bind_some']
    rcases kf_c (Wn b n a) with ek | ⟨k, hk, ek⟩
    · rw [ek, if_pos (show (-1 : Int32) = -1 from rfl), if_pos (show (-1 : Int32) < 0 by decide), isW h.1 (w := 7) (by omega) h.2.2.1, bind_some']
      by_cases e7 : Wn b n a = Kw 7
      · rw [if_pos e7, if_neg n10, if_pos (l7.mpr e7), if_pos (l7.mpr e7)]
        exact (it_fence h e.1 hE (Or.inr rfl)).nn
      rw [if_neg e7, if_pos z00, if_neg (fun z => e7 (l7.mp z)), isW h.1 (w := 8) (by omega) h.2.2.1, bind_some']
      by_cases e8 : Wn b n a = Kw 8
      · rw [if_pos e8, if_neg n10, if_pos (l8.mpr e8), if_neg (fun z => e7 (l7.mp z))]
        exact (it_fence h e.1 hE (Or.inl rfl)).nn
      rw [if_neg e8, if_pos z00, if_neg (fun z => e8 (l8.mp z)), isW h.1 (w := 9) (by omega) h.2.2.1, bind_some']
      by_cases e9 : Wn b n a = Kw 9
      · rw [if_pos e9, if_neg n10, if_pos (l9.mpr e9)]
        exact (it_rain h e.1 hE).nn
      rw [if_neg e9, if_pos z00, if_neg (fun z => e9 (l9.mp z)), isW h.1 (w := 11) (by omega) h.2.2.1, bind_some']
      by_cases e11 : Wn b n a = Kw 11
      · rw [if_pos e11, if_neg n10, if_pos (l11.mpr e11), bind_some']
        exact (it_spot h e.1 hE (s := 0) (by omega)).nn
      rw [if_neg e11, if_pos z00, if_neg (fun z => e11 (l11.mp z)), isW h.1 (w := 12) (by omega) h.2.2.1, bind_some']
      by_cases e12 : Wn b n a = Kw 12
      · rw [if_pos e12, if_neg n10, if_pos (l12.mpr e12), bind_some']
        exact (it_spot h e.1 hE (s := 1) (by omega)).nn
      rw [if_neg e12, if_pos z00, if_neg (fun z => e12 (l12.mp z)), isW h.1 (w := 13) (by omega) h.2.2.1, bind_some']
      by_cases e13 : Wn b n a = Kw 13
      · rw [if_pos e13, if_neg n10, if_pos (l13.mpr e13), bind_some']
        exact (it_spot h e.1 hE (s := 2) (by omega)).nb
      rw [if_neg e13, if_pos z00, if_neg (fun z => e13 (l13.mp z)), bind_some', place_w, bind_some']
      exact ⟨_, _, _, rfl, rfl, FX.rfl' _, (G6_w _ _ (by omega) (by omega)).x, Or.inl ⟨rfl, h.w0⟩⟩
    · rw [ek, if_neg (jm1 (by omega)), if_neg (nI_pos (by omega))]
      exact (it_tort h e.1 hE hk).nn
  · rw [if_neg (show ¬ nI (kd b n a) = 1 from fun z => e (kd_1.mp ((neq (b := 1) (by omega) (by omega)).mp z)))]
    have w0 : Wn b n a = 0 := by unfold Wn; rw [if_neg e]
    have nw : ∀ w, w < 14 → ¬ Wn b n a = Kw w := fun w hw q => by have := Kw_c w hw; omega
    have ek : kf (Wn b n a) = -1 := by
      unfold kf
      rw [if_neg (nw 5 (by omega)), if_neg (nw 0 (by omega)), if_neg (nw 1 (by omega)), if_neg (nw 2 (by omega)), if_neg (nw 3 (by omega)), if_neg (nw 4 (by omega))]
    rw [ek, if_pos (show (-1 : Int32) < 0 by decide), if_neg (fun z => nw 7 (by omega) (l7.mp z)), if_neg (fun z => nw 8 (by omega) (l8.mp z)), if_neg (fun z => nw 9 (by omega) (l9.mp z)), if_neg (fun z => nw 11 (by omega) (l11.mp z)), if_neg (fun z => nw 12 (by omega) (l12.mp z)), if_neg (fun z => nw 13 (by omega) (l13.mp z)), bind_some', place_w, bind_some']
    exact ⟨_, _, _, rfl, rfl, FX.rfl' _, (G6_w _ _ (by omega) (by omega)).x, Or.inl ⟨rfl, h.w0⟩⟩
