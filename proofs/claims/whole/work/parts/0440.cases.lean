def SimT_fence (Rel : Mi → Ml → Mi → Ml → Prop) : Prop := ∀ (Mx : Mi) (Nx : Ml) (Mm : Mi) (Nm : Ml), Rel Mx Nx Mm Nm → ∀ (x1 : Int32) (x2 : Int32), ∃ b d, fX4_fence Mx x1 x2 = some b ∧ fX5_fence Mm x1 x2 = some d ∧ b.1 = d.1 ∧ Rel (b.2) (Nx) (d.2) (Nm)
def SimT_spot (Rel : Mi → Ml → Mi → Ml → Prop) : Prop := ∀ (Mx : Mi) (Nx : Ml) (Mm : Mi) (Nm : Ml), Rel Mx Nx Mm Nm → ∀ (x1 : Int32) (x2 : Int32), ∃ b d, fX4_spot Mx x1 x2 = some b ∧ fX5_spot Mm x1 x2 = some d ∧ b.1 = d.1 ∧ Rel (b.2) (Nx) (d.2) (Nm)
def SimT_rain (Rel : Mi → Ml → Mi → Ml → Prop) : Prop := ∀ (Mx : Mi) (Nx : Ml) (Mm : Mi) (Nm : Ml), Rel Mx Nx Mm Nm → ∀ (x1 : Int32), ∃ b d, fX4_rain Mx x1 = some b ∧ fX5_rain Mm x1 = some d ∧ b.1 = d.1 ∧ Rel (b.2) (Nx) (d.2) (Nm)
def SimT_cell (Rel : Mi → Ml → Mi → Ml → Prop) : Prop := ∀ (Mx : Mi) (Nx : Ml) (Mm : Mi) (Nm : Ml), Rel Mx Nx Mm Nm → ∀ (x1 : Int32) (x2 : Int32), ∃ b d, fX4_cell Mx x1 x2 = some b ∧ fX5_cell Mm x1 x2 = some d ∧ b.1 = d.1 ∧ Rel (b.2) (Nx) (d.2) (Nm)
def SimT_tortoise (Rel : Mi → Ml → Mi → Ml → Prop) : Prop := ∀ (Mx : Mi) (Nx : Ml) (Mm : Mi) (Nm : Ml), Rel Mx Nx Mm Nm → ∀ (x1 : Int32) (x2 : Int32) (x3 : Int32), ∃ b d, fX4_tortoise Mx x1 x2 x3 = some b ∧ fX5_tortoise Mm x1 x2 x3 = some d ∧ b.1 = d.1 ∧ Rel (b.2) (Nx) (d.2) (Nm)
def SimT_of (Rel : Mi → Ml → Mi → Ml → Prop) : Prop := ∀ (Mx : Mi) (Nx : Ml) (Mm : Mi) (Nm : Ml), Rel Mx Nx Mm Nm → ∀ (x1 : Int32) (x2 : Int32), ∃ b d, fX4_of Mx x1 x2 = some b ∧ fX5_of Mm x1 x2 = some d ∧ b.1 = d.1 ∧ Rel (b.2) (Nx) (d.2) (Nm)
def SimT_set (Rel : Mi → Ml → Mi → Ml → Prop) : Prop := ∀ (Mx : Mi) (Nx : Ml) (Mm : Mi) (Nm : Ml), Rel Mx Nx Mm Nm → ∀ (x1 : Int32) (x2 : Int32) (x3 : Int32), ∃ b d, fX4_set Mx x1 x2 x3 = some b ∧ fX5_set Mm x1 x2 x3 = some d ∧ b.1 = d.1 ∧ Rel (b.2) (Nx) (d.2) (Nm)
def SimT_turn (Rel : Mi → Ml → Mi → Ml → Prop) : Prop := ∀ (Mx : Mi) (Nx : Ml) (Mm : Mi) (Nm : Ml), Rel Mx Nx Mm Nm → ∀ (x1 : Int32) (x2 : Int32), ∃ b d, fX4_turn Mx x1 x2 = some b ∧ fX5_turn Mm x1 x2 = some d ∧ b.1 = d.1 ∧ Rel (b.2) (Nx) (d.2) (Nm)
def SimT_as (Rel : Mi → Ml → Mi → Ml → Prop) : Prop := ∀ (Mx : Mi) (Nx : Ml) (Mm : Mi) (Nm : Ml), Rel Mx Nx Mm Nm → ∀ (x1 : Int32) (x2 : Int32), ∃ b d, fX4_as Mx x1 x2 = some b ∧ fX5_as Mm x1 x2 = some d ∧ b.1 = d.1 ∧ Rel (b.2) (Nx) (d.2) (Nm)
def SimT_lend (Rel : Mi → Ml → Mi → Ml → Prop) : Prop := ∀ (Mx : Mi) (Nx : Ml) (Mm : Mi) (Nm : Ml), Rel Mx Nx Mm Nm → ∀ (x1 : Int32) (x2 : Int32) (x3 : Int32), ∃ b d, fX4_lend Mx x1 x2 x3 = some b ∧ fX5_lend Mm x1 x2 x3 = some d ∧ b.1 = d.1 ∧ Rel (b.2) (Nx) (d.2) (Nm)
def SimT_hours (Rel : Mi → Ml → Mi → Ml → Prop) : Prop := ∀ (Mx : Mi) (Nx : Ml) (Mm : Mi) (Nm : Ml), Rel Mx Nx Mm Nm → ∀ (x1 : Int32), ∃ b d, fX4_hours Mx x1 = some b ∧ fX5_hours Mm x1 = some d ∧ b.1 = d.1 ∧ Rel (b.2) (Nx) (d.2) (Nm)
def SimT_now (Rel : Mi → Ml → Mi → Ml → Prop) : Prop := ∀ (Mx : Mi) (Nx : Ml) (Mm : Mi) (Nm : Ml), Rel Mx Nx Mm Nm → ∀ (x1 : Int32), ∃ b d, fX4_now Mx x1 = some b ∧ fX5_now Mm x1 = some d ∧ b.1 = d.1 ∧ Rel (b.2) (Nx) (d.2) (Nm)
def SimT_on (Rel : Mi → Ml → Mi → Ml → Prop) : Prop := ∀ (Mx : Mi) (Nx : Ml) (Mm : Mi) (Nm : Ml), Rel Mx Nx Mm Nm → ∀ (x1 : Int32) (x2 : Int32) (x3 : Int32), ∃ b d, fX4_on Mx x1 x2 x3 = some b ∧ fX5_on Mm x1 x2 x3 = some d ∧ b.1 = d.1 ∧ Rel (b.2) (Nx) (d.2) (Nm)
def SimT_when (Rel : Mi → Ml → Mi → Ml → Prop) : Prop := ∀ (Mx : Mi) (Nx : Ml) (Mm : Mi) (Nm : Ml), Rel Mx Nx Mm Nm → ∀ (x1 : Int32) (x2 : Int32), ∃ b d, fX4_when Mx x1 x2 = some b ∧ fX5_when Mm x1 x2 = some d ∧ b.1 = d.1 ∧ Rel (b.2) (Nx) (d.2) (Nm)
def SimT_meet (Rel : Mi → Ml → Mi → Ml → Prop) : Prop := ∀ (Mx : Mi) (Nx : Ml) (Mm : Mi) (Nm : Ml), Rel Mx Nx Mm Nm → ∀ (x1 : Int32) (x2 : Int32), ∃ b d, fX4_meet Mx x1 x2 = some b ∧ fX5_meet Mm x1 x2 = some d ∧ b.1 = d.1 ∧ Rel (b.2) (Nx) (d.2) (Nm)
def SimT_carries (Rel : Mi → Ml → Mi → Ml → Prop) : Prop := ∀ (Mx : Mi) (Nx : Ml) (Mm : Mi) (Nm : Ml), Rel Mx Nx Mm Nm → ∀ (x1 : Int32) (x2 : Int32), ∃ b d, fX4_carries Mx x1 x2 = some b ∧ fX5_carries Mm x1 x2 = some d ∧ b.1 = d.1 ∧ Rel (b.2) (Nx) (d.2) (Nm)
def SimT_soonest (Rel : Mi → Ml → Mi → Ml → Prop) : Prop := ∀ (Mx : Mi) (Nx : Ml) (Mm : Mi) (Nm : Ml), Rel Mx Nx Mm Nm → ∀ (x1 : Int32) (x2 : Int32), ∃ b d, fX4_soonest Mx x1 x2 = some b ∧ fX5_soonest Mm x1 x2 = some d ∧ b.1 = d.1 ∧ Rel (b.2) (Nx) (d.2) (Nm)
def SimT_where (Rel : Mi → Ml → Mi → Ml → Prop) : Prop := ∀ (Mx : Mi) (Nx : Ml) (Mm : Mi) (Nm : Ml), Rel Mx Nx Mm Nm → ∀ (x1 : Int32) (x2 : Int32), ∃ b d, fX4_where Mx x1 x2 = some b ∧ fX5_where Mm x1 x2 = some d ∧ b.1 = d.1 ∧ Rel (b.2) (Nx) (d.2) (Nm)
def SimT_waits (Rel : Mi → Ml → Mi → Ml → Prop) : Prop := ∀ (Mx : Mi) (Nx : Ml) (Mm : Mi) (Nm : Ml), Rel Mx Nx Mm Nm → ∀ (x1 : Int32) (x2 : Int32), ∃ b d, fX4_waits Mx x1 x2 = some b ∧ fX5_waits Mm x1 x2 = some d ∧ b.1 = d.1 ∧ Rel (b.2) (Nx) (d.2) (Nm)
def SimT_waterhole (Rel : Mi → Ml → Mi → Ml → Prop) : Prop := ∀ (Mx : Mi) (Nx : Ml) (Mm : Mi) (Nm : Ml), Rel Mx Nx Mm Nm → ∀ (x1 : Int32), ∃ b d, fX4_waterhole Mx x1 = some b ∧ fX5_waterhole Mm x1 = some d ∧ b.1 = d.1 ∧ Rel (b.2) (Nx) (d.2) (Nm)
def SimT_many (Rel : Mi → Ml → Mi → Ml → Prop) : Prop := ∀ (Mx : Mi) (Nx : Ml) (Mm : Mi) (Nm : Ml), Rel Mx Nx Mm Nm → ∀ (x1 : Int32) (x2 : Int32), ∃ b d, fX4_many Mx x1 x2 = some b ∧ fX5_many Mm x1 x2 = some d ∧ b.1 = d.1 ∧ Rel (b.2) (Nx) (d.2) (Nm)
def SimT_both (Rel : Mi → Ml → Mi → Ml → Prop) : Prop := ∀ (Mx : Mi) (Nx : Ml) (Mm : Mi) (Nm : Ml), Rel Mx Nx Mm Nm → ∀ (x1 : Int32) (x2 : Int32) (x3 : Int32), ∃ b d, fX4_both Mx x1 x2 x3 = some b ∧ fX5_both Mm x1 x2 x3 = some d ∧ b.1 = d.1 ∧ Rel (b.2) (Nx) (d.2) (Nm)
def SimT_censors (Rel : Mi → Ml → Mi → Ml → Prop) : Prop := ∀ (Mx : Mi) (Nx : Ml) (Mm : Mi) (Nm : Ml), Rel Mx Nx Mm Nm → ∀ (x1 : Int32) (x2 : Int32) (x3 : Int32), ∃ b d, fX4_censors Mx x1 x2 x3 = some b ∧ fX5_censors Mm x1 x2 x3 = some d ∧ b.1 = d.1 ∧ Rel (b.2) (Nx) (d.2) (Nm)
def SimT_tips (Rel : Mi → Ml → Mi → Ml → Prop) : Prop := ∀ (Mx : Mi) (Nx : Ml) (Mm : Mi) (Nm : Ml), Rel Mx Nx Mm Nm → ∀ (x1 : Int32) (x2 : Int32), ∃ b d, fX4_tips Mx x1 x2 = some b ∧ fX5_tips Mm x1 x2 = some d ∧ b.1 = d.1 ∧ Rel (b.2) (Nx) (d.2) (Nm)
def SimT_spring (Rel : Mi → Ml → Mi → Ml → Prop) : Prop := ∀ (Mx : Mi) (Nx : Ml) (Mm : Mi) (Nm : Ml), Rel Mx Nx Mm Nm → ∀ (x1 : Int32) (x2 : Int32), ∃ b d, fX4_spring Mx x1 x2 = some b ∧ fX5_spring Mm x1 x2 = some d ∧ b.1 = d.1 ∧ Rel (b.2) (Nx) (d.2) (Nm)
def SimT_kind (Rel : Mi → Ml → Mi → Ml → Prop) : Prop := ∀ (Mx : Mi) (Nx : Ml) (Mm : Mi) (Nm : Ml), Rel Mx Nx Mm Nm → ∀ (x1 : Int32) (x2 : Int32), ∃ b d, fX4_kind Mx x1 x2 = some b ∧ fX5_kind Mm x1 x2 = some d ∧ b.1 = d.1 ∧ Rel (b.2) (Nx) (d.2) (Nm)
def SimT_feed (Rel : Mi → Ml → Mi → Ml → Prop) : Prop := ∀ (Mx : Mi) (Nx : Ml) (Mm : Mi) (Nm : Ml), Rel Mx Nx Mm Nm → ∀ (x1 : Int32) (x2 : Int32), ∃ b d, fX4_feed Mx x1 x2 = some b ∧ fX5_feed Mm x1 x2 = some d ∧ b.1 = d.1 ∧ Rel (b.2) (Nx) (d.2) (Nm)
def SimT_wipe (Rel : Mi → Ml → Mi → Ml → Prop) : Prop := ∀ (Mx : Mi) (Nx : Ml) (Mm : Mi) (Nm : Ml), Rel Mx Nx Mm Nm → ∃ b d, fX4_wipe Mx = some b ∧ fX5_wipe Mm = some d ∧ b.1 = d.1 ∧ Rel (b.2) (Nx) (d.2) (Nm)
def SimT_island (Rel : Mi → Ml → Mi → Ml → Prop) : Prop := ∀ (Mx : Mi) (Nx : Ml) (Mm : Mi) (Nm : Ml), Rel Mx Nx Mm Nm → ∃ b d, fX4_island Mx = some b ∧ fX5_island Mm = some d ∧ b.1 = d.1 ∧ Rel (b.2) (Nx) (d.2) (Nm)
def SimT_sheet (Rel : Mi → Ml → Mi → Ml → Prop) : Prop := ∀ (Mx : Mi) (Nx : Ml) (Mm : Mi) (Nm : Ml), Rel Mx Nx Mm Nm → ∀ (x1 : Int32) (x2 : Int32) (x3 : Int32), ∃ b d, fX4_sheet Mx Nx x1 x2 x3 = some b ∧ fX5_sheet Mm Nm x1 x2 x3 = some d ∧ b.1 = d.1 ∧ Rel (b.2.1) (b.2.2) (d.2.1) (d.2.2)
def SimT_write (Rel : Mi → Ml → Mi → Ml → Prop) : Prop := ∀ (Mx : Mi) (Nx : Ml) (Mm : Mi) (Nm : Ml), Rel Mx Nx Mm Nm → ∀ (x1 : Int32) (x2 : Int32) (x3 : Int64), ∃ b d, fX4_write Mx Nx x1 x2 x3 = some b ∧ fX5_write Mm Nm x1 x2 x3 = some d ∧ b.1 = d.1 ∧ Rel (b.2.1) (b.2.2) (d.2.1) (d.2.2)
def SimT_copy (Rel : Mi → Ml → Mi → Ml → Prop) : Prop := ∀ (Mx : Mi) (Nx : Ml) (Mm : Mi) (Nm : Ml), Rel Mx Nx Mm Nm → ∀ (x1 : Int32) (x2 : Int32) (x3 : Int32) (x4 : Int32) (x5 : Int32), ∃ b d, fX4_copy Mx Nx x1 x2 x3 x4 x5 = some b ∧ fX5_copy Mm Nm x1 x2 x3 x4 x5 = some d ∧ b.1 = d.1 ∧ Rel (b.2.1) (b.2.2) (d.2.1) (d.2.2)
def SimT_lays (Rel : Mi → Ml → Mi → Ml → Prop) : Prop := ∀ (Mx : Mi) (Nx : Ml) (Mm : Mi) (Nm : Ml), Rel Mx Nx Mm Nm → ∀ (x1 : Int32), ∃ b d, fX4_lays Nx Mx x1 = some b ∧ fX5_lays Nm Mm x1 = some d ∧ b.1 = d.1 ∧ Rel (b.2) (Nx) (d.2) (Nm)
def SimT_book (Rel : Mi → Ml → Mi → Ml → Prop) : Prop := ∀ (Mx : Mi) (Nx : Ml) (Mm : Mi) (Nm : Ml), Rel Mx Nx Mm Nm → ∀ (x1 : Int32) (x2 : Int32), ∃ b d, fX4_book Mx Nx x1 x2 = some b ∧ fX5_book Mm Nm x1 x2 = some d ∧ b.1 = d.1 ∧ Rel (b.2.1) (b.2.2) (d.2.1) (d.2.2)
def SimT_read (Rel : Mi → Ml → Mi → Ml → Prop) : Prop := ∀ (Mx : Mi) (Nx : Ml) (Mm : Mi) (Nm : Ml), Rel Mx Nx Mm Nm → ∀ (x1 : Int32) (x2 : Int32), ∃ b d, fX4_read Nx Mx x1 x2 = some b ∧ fX5_read Nm Mm x1 x2 = some d ∧ b.1 = d.1 ∧ Rel (b.2) (Nx) (d.2) (Nm)
def SimT_image (Rel : Mi → Ml → Mi → Ml → Prop) : Prop := ∀ (Mx : Mi) (Nx : Ml) (Mm : Mi) (Nm : Ml), Rel Mx Nx Mm Nm → ∃ b d, fX4_image Mx = some b ∧ fX5_image Mm = some d ∧ b.1 = d.1 ∧ Rel (b.2) (Nx) (d.2) (Nm)
def SimT_undo (Rel : Mi → Ml → Mi → Ml → Prop) : Prop := ∀ (Mx : Mi) (Nx : Ml) (Mm : Mi) (Nm : Ml), Rel Mx Nx Mm Nm → ∃ b d, fX4_undo Mx = some b ∧ fX5_undo Mm = some d ∧ b.1 = d.1 ∧ Rel (b.2) (Nx) (d.2) (Nm)
def SimT_tear (Rel : Mi → Ml → Mi → Ml → Prop) : Prop := ∀ (Mx : Mi) (Nx : Ml) (Mm : Mi) (Nm : Ml), Rel Mx Nx Mm Nm → ∃ b d, fX4_tear Mx = some b ∧ fX5_tear Mm = some d ∧ b.1 = d.1 ∧ Rel (b.2) (Nx) (d.2) (Nm)
def SimT_count (Rel : Mi → Ml → Mi → Ml → Prop) : Prop := ∀ (Mx : Mi) (Nx : Ml) (Mm : Mi) (Nm : Ml), Rel Mx Nx Mm Nm → ∀ (x1 : Int32), ∃ b d, fX4_count Mx x1 = some b ∧ fX5_count Mm x1 = some d ∧ b.1 = d.1 ∧ Rel (b.2) (Nx) (d.2) (Nm)
def SimT_status (Rel : Mi → Ml → Mi → Ml → Prop) : Prop := ∀ (Mx : Mi) (Nx : Ml) (Mm : Mi) (Nm : Ml), Rel Mx Nx Mm Nm → ∀ (x1 : Int32), ∃ b d, fX4_status Mx x1 = some b ∧ fX5_status Mm x1 = some d ∧ b.1 = d.1 ∧ Rel (b.2) (Nx) (d.2) (Nm)
section CASES
variable {D : va_G} {cy : Nat → ClassId} {K V : Nat → Nat} {ka : Nat} {E : Ec} {bs L : Nat} {xs : Nat → Int32} {Q : State → Prop} {pc : Nat} {lv lv' : List (Nat × Value)} {st rest : List Value} {Mx Mm Mx' Mm' : Mi} {Nx Nm Nx' Nm' : Ml}
theorem lc_fence (C : OkL D cy K V ka E bs L xs) {Rel : Mi → Ml → Mi → Ml → Prop} (hS : SimT_fence Rel) (hR : Rel Mx Nx Mm Nm) {x3 : Int32} (h1 : inb (x3 + 1) L) (h2 : inb (x3 + 2) L) (h3 : inb (x3 + 3) L) (h4 : inb (x3 + 4) L) (h5 : inb (x3 + 5) L) (kk : ∀ (Mx : Mi) (Nx : Ml) (Mm : Mi) (Nm : Ml), Rel Mx Nx Mm Nm → GL D cy K V ka E Q 1499 [(0, .ref bs), (1, .ref (zA (zXE D cy K V ka E) 8 0)), (2, .ref (zA (zME D cy E) 6 0)), (3, .int x3)] [] Mx Nx Mm Nm) : GL D cy K V ka E Q 208 [(0, .ref bs), (1, .ref (zA (zXE D cy K V ka E) 8 0)), (2, .ref (zA (zME D cy E) 6 0)), (3, .int x3)] [] Mx Nx Mm Nm := by
  obtain ⟨b, d, hb, hd, he, hR2⟩ := hS Mx Nx Mm Nm hR (xs (ix (x3 + 1))) (xs (ix (x3 + 2)))
  refine gl_aload_n C dL_law_208 1 1 rfl rfl ?_
  refine gl_aload_n C dL_law_209 0 0 rfl rfl ?_
  refine gl_iload_n C dL_law_210 3 3 rfl rfl ?_
  refine gl_iconst (v := 1) C dL_law_211 (by decide) ?_
  refine gl_iadd C dL_law_212 ?_
  refine gl_sld C h1 dL_law_213 ?_
  refine gl_aload_n C dL_law_214 0 0 rfl rfl ?_
  refine gl_iload_n C dL_law_215 3 3 rfl rfl ?_
  refine gl_iconst (v := 2) C dL_law_216 (by decide) ?_
  refine gl_iadd C dL_law_217 ?_
  refine gl_sld C h2 dL_law_218 ?_
  refine gl_callX (Mx' := b.2) (Nx' := Nx) (rest := []) (st2 := [.int b.1]) C (mX4_fence (eL E) okX Mx Nx (xs (ix (x3 + 1))) (xs (ix (x3 + 2))) b hb) lk_L_13 rfl (by decide) rfl rfl (Nat.le_of_ble_eq_true rfl) dL_law_219 rfl ?_
  refine gl_aload_n C dL_law_222 2 2 rfl rfl ?_
  refine gl_aload_n C dL_law_223 0 0 rfl rfl ?_
  refine gl_iload_n C dL_law_224 3 3 rfl rfl ?_
  refine gl_iconst (v := 1) C dL_law_225 (by decide) ?_
  refine gl_iadd C dL_law_226 ?_
  refine gl_sld C h1 dL_law_227 ?_
  refine gl_aload_n C dL_law_228 0 0 rfl rfl ?_
  refine gl_iload_n C dL_law_229 3 3 rfl rfl ?_
  refine gl_iconst (v := 2) C dL_law_230 (by decide) ?_
  refine gl_iadd C dL_law_231 ?_
  refine gl_sld C h2 dL_law_232 ?_
  refine gl_callM (Mm' := d.2) (Nm' := Nm) (rest := [.int b.1]) (st2 := [.int d.1, .int b.1]) C (mX5_fence (eL E) okM Mm Nm (xs (ix (x3 + 1))) (xs (ix (x3 + 2))) d hd) lk_L_17 rfl (by decide) rfl rfl (Nat.le_of_ble_eq_true rfl) dL_law_233 rfl ?_
  refine gl_eq (tgt := 1499) C dL_law_236 (by decide) he ?_
  exact kk _ _ _ _ hR2
theorem lc_spot (C : OkL D cy K V ka E bs L xs) {Rel : Mi → Ml → Mi → Ml → Prop} (hS : SimT_spot Rel) (hR : Rel Mx Nx Mm Nm) {x3 : Int32} (h1 : inb (x3 + 1) L) (h2 : inb (x3 + 2) L) (h3 : inb (x3 + 3) L) (h4 : inb (x3 + 4) L) (h5 : inb (x3 + 5) L) (kk : ∀ (Mx : Mi) (Nx : Ml) (Mm : Mi) (Nm : Ml), Rel Mx Nx Mm Nm → GL D cy K V ka E Q 1499 [(0, .ref bs), (1, .ref (zA (zXE D cy K V ka E) 8 0)), (2, .ref (zA (zME D cy E) 6 0)), (3, .int x3)] [] Mx Nx Mm Nm) : GL D cy K V ka E Q 241 [(0, .ref bs), (1, .ref (zA (zXE D cy K V ka E) 8 0)), (2, .ref (zA (zME D cy E) 6 0)), (3, .int x3)] [] Mx Nx Mm Nm := by
  obtain ⟨b, d, hb, hd, he, hR2⟩ := hS Mx Nx Mm Nm hR (xs (ix (x3 + 1))) (xs (ix (x3 + 2)))
  refine gl_aload_n C dL_law_241 1 1 rfl rfl ?_
  refine gl_aload_n C dL_law_242 0 0 rfl rfl ?_
  refine gl_iload_n C dL_law_243 3 3 rfl rfl ?_
  refine gl_iconst (v := 1) C dL_law_244 (by decide) ?_
  refine gl_iadd C dL_law_245 ?_
  refine gl_sld C h1 dL_law_246 ?_
  refine gl_aload_n C dL_law_247 0 0 rfl rfl ?_
  refine gl_iload_n C dL_law_248 3 3 rfl rfl ?_
  refine gl_iconst (v := 2) C dL_law_249 (by decide) ?_
  refine gl_iadd C dL_law_250 ?_
  refine gl_sld C h2 dL_law_251 ?_
  refine gl_callX (Mx' := b.2) (Nx' := Nx) (rest := []) (st2 := [.int b.1]) C (mX4_spot (eL E) okX Mx Nx (xs (ix (x3 + 1))) (xs (ix (x3 + 2))) b hb) lk_L_18 rfl (by decide) rfl rfl (Nat.le_of_ble_eq_true rfl) dL_law_252 rfl ?_
  refine gl_aload_n C dL_law_255 2 2 rfl rfl ?_
  refine gl_aload_n C dL_law_256 0 0 rfl rfl ?_
  refine gl_iload_n C dL_law_257 3 3 rfl rfl ?_
  refine gl_iconst (v := 1) C dL_law_258 (by decide) ?_
  refine gl_iadd C dL_law_259 ?_
  refine gl_sld C h1 dL_law_260 ?_
  refine gl_aload_n C dL_law_261 0 0 rfl rfl ?_
  refine gl_iload_n C dL_law_262 3 3 rfl rfl ?_
  refine gl_iconst (v := 2) C dL_law_263 (by decide) ?_
  refine gl_iadd C dL_law_264 ?_
  refine gl_sld C h2 dL_law_265 ?_
  refine gl_callM (Mm' := d.2) (Nm' := Nm) (rest := [.int b.1]) (st2 := [.int d.1, .int b.1]) C (mX5_spot (eL E) okM Mm Nm (xs (ix (x3 + 1))) (xs (ix (x3 + 2))) d hd) lk_L_21 rfl (by decide) rfl rfl (Nat.le_of_ble_eq_true rfl) dL_law_266 rfl ?_
  refine gl_eq (tgt := 1499) C dL_law_269 (by decide) he ?_
  exact kk _ _ _ _ hR2
theorem lc_rain (C : OkL D cy K V ka E bs L xs) {Rel : Mi → Ml → Mi → Ml → Prop} (hS : SimT_rain Rel) (hR : Rel Mx Nx Mm Nm) {x3 : Int32} (h1 : inb (x3 + 1) L) (h2 : inb (x3 + 2) L) (h3 : inb (x3 + 3) L) (h4 : inb (x3 + 4) L) (h5 : inb (x3 + 5) L) (kk : ∀ (Mx : Mi) (Nx : Ml) (Mm : Mi) (Nm : Ml), Rel Mx Nx Mm Nm → GL D cy K V ka E Q 1499 [(0, .ref bs), (1, .ref (zA (zXE D cy K V ka E) 8 0)), (2, .ref (zA (zME D cy E) 6 0)), (3, .int x3)] [] Mx Nx Mm Nm) : GL D cy K V ka E Q 274 [(0, .ref bs), (1, .ref (zA (zXE D cy K V ka E) 8 0)), (2, .ref (zA (zME D cy E) 6 0)), (3, .int x3)] [] Mx Nx Mm Nm := by
  obtain ⟨b, d, hb, hd, he, hR2⟩ := hS Mx Nx Mm Nm hR (xs (ix (x3 + 1)))
  refine gl_aload_n C dL_law_274 1 1 rfl rfl ?_
  refine gl_aload_n C dL_law_275 0 0 rfl rfl ?_
  refine gl_iload_n C dL_law_276 3 3 rfl rfl ?_
  refine gl_iconst (v := 1) C dL_law_277 (by decide) ?_
  refine gl_iadd C dL_law_278 ?_
  refine gl_sld C h1 dL_law_279 ?_
  refine gl_callX (Mx' := b.2) (Nx' := Nx) (rest := []) (st2 := [.int b.1]) C (mX4_rain (eL E) okX Mx Nx (xs (ix (x3 + 1))) b hb) lk_L_22 rfl (by decide) rfl rfl (Nat.le_of_ble_eq_true rfl) dL_law_280 rfl ?_
  refine gl_aload_n C dL_law_283 2 2 rfl rfl ?_
  refine gl_aload_n C dL_law_284 0 0 rfl rfl ?_
  refine gl_iload_n C dL_law_285 3 3 rfl rfl ?_
  refine gl_iconst (v := 1) C dL_law_286 (by decide) ?_
  refine gl_iadd C dL_law_287 ?_
  refine gl_sld C h1 dL_law_288 ?_
  refine gl_callM (Mm' := d.2) (Nm' := Nm) (rest := [.int b.1]) (st2 := [.int d.1, .int b.1]) C (mX5_rain (eL E) okM Mm Nm (xs (ix (x3 + 1))) d hd) lk_L_26 rfl (by decide) rfl rfl (Nat.le_of_ble_eq_true rfl) dL_law_289 rfl ?_
  refine gl_eq (tgt := 1499) C dL_law_292 (by decide) he ?_
  exact kk _ _ _ _ hR2
theorem lc_cell (C : OkL D cy K V ka E bs L xs) {Rel : Mi → Ml → Mi → Ml → Prop} (hS : SimT_cell Rel) (hR : Rel Mx Nx Mm Nm) {x3 : Int32} (h1 : inb (x3 + 1) L) (h2 : inb (x3 + 2) L) (h3 : inb (x3 + 3) L) (h4 : inb (x3 + 4) L) (h5 : inb (x3 + 5) L) (kk : ∀ (Mx : Mi) (Nx : Ml) (Mm : Mi) (Nm : Ml), Rel Mx Nx Mm Nm → GL D cy K V ka E Q 1499 [(0, .ref bs), (1, .ref (zA (zXE D cy K V ka E) 8 0)), (2, .ref (zA (zME D cy E) 6 0)), (3, .int x3)] [] Mx Nx Mm Nm) : GL D cy K V ka E Q 297 [(0, .ref bs), (1, .ref (zA (zXE D cy K V ka E) 8 0)), (2, .ref (zA (zME D cy E) 6 0)), (3, .int x3)] [] Mx Nx Mm Nm := by
  obtain ⟨b, d, hb, hd, he, hR2⟩ := hS Mx Nx Mm Nm hR (xs (ix (x3 + 1))) (xs (ix (x3 + 2)))
  refine gl_aload_n C dL_law_297 1 1 rfl rfl ?_
  refine gl_aload_n C dL_law_298 0 0 rfl rfl ?_
  refine gl_iload_n C dL_law_299 3 3 rfl rfl ?_
  refine gl_iconst (v := 1) C dL_law_300 (by decide) ?_
  refine gl_iadd C dL_law_301 ?_
  refine gl_sld C h1 dL_law_302 ?_
  refine gl_aload_n C dL_law_303 0 0 rfl rfl ?_
  refine gl_iload_n C dL_law_304 3 3 rfl rfl ?_
  refine gl_iconst (v := 2) C dL_law_305 (by decide) ?_
  refine gl_iadd C dL_law_306 ?_
  refine gl_sld C h2 dL_law_307 ?_
  refine gl_callX (Mx' := b.2) (Nx' := Nx) (rest := []) (st2 := [.int b.1]) C (mX4_cell (eL E) okX Mx Nx (xs (ix (x3 + 1))) (xs (ix (x3 + 2))) b hb) lk_L_27 rfl (by decide) rfl rfl (Nat.le_of_ble_eq_true rfl) dL_law_308 rfl ?_
  refine gl_aload_n C dL_law_311 2 2 rfl rfl ?_
  refine gl_aload_n C dL_law_312 0 0 rfl rfl ?_
  refine gl_iload_n C dL_law_313 3 3 rfl rfl ?_
  refine gl_iconst (v := 1) C dL_law_314 (by decide) ?_
  refine gl_iadd C dL_law_315 ?_
  refine gl_sld C h1 dL_law_316 ?_
  refine gl_aload_n C dL_law_317 0 0 rfl rfl ?_
  refine gl_iload_n C dL_law_318 3 3 rfl rfl ?_
  refine gl_iconst (v := 2) C dL_law_319 (by decide) ?_
  refine gl_iadd C dL_law_320 ?_
  refine gl_sld C h2 dL_law_321 ?_
  refine gl_callM (Mm' := d.2) (Nm' := Nm) (rest := [.int b.1]) (st2 := [.int d.1, .int b.1]) C (mX5_cell (eL E) okM Mm Nm (xs (ix (x3 + 1))) (xs (ix (x3 + 2))) d hd) lk_L_30 rfl (by decide) rfl rfl (Nat.le_of_ble_eq_true rfl) dL_law_322 rfl ?_
  refine gl_eq (tgt := 1499) C dL_law_325 (by decide) he ?_
  exact kk _ _ _ _ hR2
theorem lc_tortoise (C : OkL D cy K V ka E bs L xs) {Rel : Mi → Ml → Mi → Ml → Prop} (hS : SimT_tortoise Rel) (hR : Rel Mx Nx Mm Nm) {x3 : Int32} (h1 : inb (x3 + 1) L) (h2 : inb (x3 + 2) L) (h3 : inb (x3 + 3) L) (h4 : inb (x3 + 4) L) (h5 : inb (x3 + 5) L) (kk : ∀ (Mx : Mi) (Nx : Ml) (Mm : Mi) (Nm : Ml), Rel Mx Nx Mm Nm → GL D cy K V ka E Q 1499 [(0, .ref bs), (1, .ref (zA (zXE D cy K V ka E) 8 0)), (2, .ref (zA (zME D cy E) 6 0)), (3, .int x3)] [] Mx Nx Mm Nm) : GL D cy K V ka E Q 330 [(0, .ref bs), (1, .ref (zA (zXE D cy K V ka E) 8 0)), (2, .ref (zA (zME D cy E) 6 0)), (3, .int x3)] [] Mx Nx Mm Nm := by
  obtain ⟨b, d, hb, hd, he, hR2⟩ := hS Mx Nx Mm Nm hR (xs (ix (x3 + 1))) (xs (ix (x3 + 2))) (xs (ix (x3 + 3)))
  refine gl_aload_n C dL_law_330 1 1 rfl rfl ?_
  refine gl_aload_n C dL_law_331 0 0 rfl rfl ?_
  refine gl_iload_n C dL_law_332 3 3 rfl rfl ?_
  refine gl_iconst (v := 1) C dL_law_333 (by decide) ?_
  refine gl_iadd C dL_law_334 ?_
  refine gl_sld C h1 dL_law_335 ?_
  refine gl_aload_n C dL_law_336 0 0 rfl rfl ?_
  refine gl_iload_n C dL_law_337 3 3 rfl rfl ?_
  refine gl_iconst (v := 2) C dL_law_338 (by decide) ?_
  refine gl_iadd C dL_law_339 ?_
  refine gl_sld C h2 dL_law_340 ?_
  refine gl_aload_n C dL_law_341 0 0 rfl rfl ?_
  refine gl_iload_n C dL_law_342 3 3 rfl rfl ?_
  refine gl_iconst (v := 3) C dL_law_343 (by decide) ?_
  refine gl_iadd C dL_law_344 ?_
  refine gl_sld C h3 dL_law_345 ?_
  refine gl_callX (Mx' := b.2) (Nx' := Nx) (rest := []) (st2 := [.int b.1]) C (mX4_tortoise (eL E) okX Mx Nx (xs (ix (x3 + 1))) (xs (ix (x3 + 2))) (xs (ix (x3 + 3))) b hb) lk_L_31 rfl (by decide) rfl rfl (Nat.le_of_ble_eq_true rfl) dL_law_346 rfl ?_
  refine gl_aload_n C dL_law_349 2 2 rfl rfl ?_
  refine gl_aload_n C dL_law_350 0 0 rfl rfl ?_
  refine gl_iload_n C dL_law_351 3 3 rfl rfl ?_
  refine gl_iconst (v := 1) C dL_law_352 (by decide) ?_
  refine gl_iadd C dL_law_353 ?_
  refine gl_sld C h1 dL_law_354 ?_
  refine gl_aload_n C dL_law_355 0 0 rfl rfl ?_
  refine gl_iload_n C dL_law_356 3 3 rfl rfl ?_
  refine gl_iconst (v := 2) C dL_law_357 (by decide) ?_
  refine gl_iadd C dL_law_358 ?_
  refine gl_sld C h2 dL_law_359 ?_
  refine gl_aload_n C dL_law_360 0 0 rfl rfl ?_
  refine gl_iload_n C dL_law_361 3 3 rfl rfl ?_
  refine gl_iconst (v := 3) C dL_law_362 (by decide) ?_
  refine gl_iadd C dL_law_363 ?_
  refine gl_sld C h3 dL_law_364 ?_
  refine gl_callM (Mm' := d.2) (Nm' := Nm) (rest := [.int b.1]) (st2 := [.int d.1, .int b.1]) C (mX5_tortoise (eL E) okM Mm Nm (xs (ix (x3 + 1))) (xs (ix (x3 + 2))) (xs (ix (x3 + 3))) d hd) lk_L_35 rfl (by decide) rfl rfl (Nat.le_of_ble_eq_true rfl) dL_law_365 rfl ?_
  refine gl_eq (tgt := 1499) C dL_law_368 (by decide) he ?_
  exact kk _ _ _ _ hR2
theorem lc_of (C : OkL D cy K V ka E bs L xs) {Rel : Mi → Ml → Mi → Ml → Prop} (hS : SimT_of Rel) (hR : Rel Mx Nx Mm Nm) {x3 : Int32} (h1 : inb (x3 + 1) L) (h2 : inb (x3 + 2) L) (h3 : inb (x3 + 3) L) (h4 : inb (x3 + 4) L) (h5 : inb (x3 + 5) L) (kk : ∀ (Mx : Mi) (Nx : Ml) (Mm : Mi) (Nm : Ml), Rel Mx Nx Mm Nm → GL D cy K V ka E Q 1499 [(0, .ref bs), (1, .ref (zA (zXE D cy K V ka E) 8 0)), (2, .ref (zA (zME D cy E) 6 0)), (3, .int x3)] [] Mx Nx Mm Nm) : GL D cy K V ka E Q 373 [(0, .ref bs), (1, .ref (zA (zXE D cy K V ka E) 8 0)), (2, .ref (zA (zME D cy E) 6 0)), (3, .int x3)] [] Mx Nx Mm Nm := by
  obtain ⟨b, d, hb, hd, he, hR2⟩ := hS Mx Nx Mm Nm hR (xs (ix (x3 + 1))) (xs (ix (x3 + 2)))
  refine gl_aload_n C dL_law_373 1 1 rfl rfl ?_
  refine gl_aload_n C dL_law_374 0 0 rfl rfl ?_
  refine gl_iload_n C dL_law_375 3 3 rfl rfl ?_
  refine gl_iconst (v := 1) C dL_law_376 (by decide) ?_
  refine gl_iadd C dL_law_377 ?_
  refine gl_sld C h1 dL_law_378 ?_
  refine gl_aload_n C dL_law_379 0 0 rfl rfl ?_
  refine gl_iload_n C dL_law_380 3 3 rfl rfl ?_
  refine gl_iconst (v := 2) C dL_law_381 (by decide) ?_
  refine gl_iadd C dL_law_382 ?_
  refine gl_sld C h2 dL_law_383 ?_
  refine gl_callX (Mx' := b.2) (Nx' := Nx) (rest := []) (st2 := [.int b.1]) C (mX4_of (eL E) okX Mx Nx (xs (ix (x3 + 1))) (xs (ix (x3 + 2))) b hb) lk_L_36 rfl (by decide) rfl rfl (Nat.le_of_ble_eq_true rfl) dL_law_384 rfl ?_
  refine gl_aload_n C dL_law_387 2 2 rfl rfl ?_
  refine gl_aload_n C dL_law_388 0 0 rfl rfl ?_
  refine gl_iload_n C dL_law_389 3 3 rfl rfl ?_
  refine gl_iconst (v := 1) C dL_law_390 (by decide) ?_
  refine gl_iadd C dL_law_391 ?_
  refine gl_sld C h1 dL_law_392 ?_
  refine gl_aload_n C dL_law_393 0 0 rfl rfl ?_
  refine gl_iload_n C dL_law_394 3 3 rfl rfl ?_
  refine gl_iconst (v := 2) C dL_law_395 (by decide) ?_
  refine gl_iadd C dL_law_396 ?_
  refine gl_sld C h2 dL_law_397 ?_
  refine gl_callM (Mm' := d.2) (Nm' := Nm) (rest := [.int b.1]) (st2 := [.int d.1, .int b.1]) C (mX5_of (eL E) okM Mm Nm (xs (ix (x3 + 1))) (xs (ix (x3 + 2))) d hd) lk_L_39 rfl (by decide) rfl rfl (Nat.le_of_ble_eq_true rfl) dL_law_398 rfl ?_
  refine gl_eq (tgt := 1499) C dL_law_401 (by decide) he ?_
  exact kk _ _ _ _ hR2
theorem lc_set (C : OkL D cy K V ka E bs L xs) {Rel : Mi → Ml → Mi → Ml → Prop} (hS : SimT_set Rel) (hR : Rel Mx Nx Mm Nm) {x3 : Int32} (h1 : inb (x3 + 1) L) (h2 : inb (x3 + 2) L) (h3 : inb (x3 + 3) L) (h4 : inb (x3 + 4) L) (h5 : inb (x3 + 5) L) (kk : ∀ (Mx : Mi) (Nx : Ml) (Mm : Mi) (Nm : Ml), Rel Mx Nx Mm Nm → GL D cy K V ka E Q 1499 [(0, .ref bs), (1, .ref (zA (zXE D cy K V ka E) 8 0)), (2, .ref (zA (zME D cy E) 6 0)), (3, .int x3)] [] Mx Nx Mm Nm) : GL D cy K V ka E Q 406 [(0, .ref bs), (1, .ref (zA (zXE D cy K V ka E) 8 0)), (2, .ref (zA (zME D cy E) 6 0)), (3, .int x3)] [] Mx Nx Mm Nm := by
  obtain ⟨b, d, hb, hd, he, hR2⟩ := hS Mx Nx Mm Nm hR (xs (ix (x3 + 1))) (xs (ix (x3 + 2))) (xs (ix (x3 + 3)))
  refine gl_aload_n C dL_law_406 1 1 rfl rfl ?_
  refine gl_aload_n C dL_law_407 0 0 rfl rfl ?_
  refine gl_iload_n C dL_law_408 3 3 rfl rfl ?_
  refine gl_iconst (v := 1) C dL_law_409 (by decide) ?_
  refine gl_iadd C dL_law_410 ?_
  refine gl_sld C h1 dL_law_411 ?_
  refine gl_aload_n C dL_law_412 0 0 rfl rfl ?_
  refine gl_iload_n C dL_law_413 3 3 rfl rfl ?_
  refine gl_iconst (v := 2) C dL_law_414 (by decide) ?_
  refine gl_iadd C dL_law_415 ?_
  refine gl_sld C h2 dL_law_416 ?_
  refine gl_aload_n C dL_law_417 0 0 rfl rfl ?_
  refine gl_iload_n C dL_law_418 3 3 rfl rfl ?_
  refine gl_iconst (v := 3) C dL_law_419 (by decide) ?_
  refine gl_iadd C dL_law_420 ?_
  refine gl_sld C h3 dL_law_421 ?_
  refine gl_callX (Mx' := b.2) (Nx' := Nx) (rest := []) (st2 := [.int b.1]) C (mX4_set (eL E) okX Mx Nx (xs (ix (x3 + 1))) (xs (ix (x3 + 2))) (xs (ix (x3 + 3))) b hb) lk_L_40 rfl (by decide) rfl rfl (Nat.le_of_ble_eq_true rfl) dL_law_422 rfl ?_
  refine gl_aload_n C dL_law_425 2 2 rfl rfl ?_
  refine gl_aload_n C dL_law_426 0 0 rfl rfl ?_
  refine gl_iload_n C dL_law_427 3 3 rfl rfl ?_
  refine gl_iconst (v := 1) C dL_law_428 (by decide) ?_
  refine gl_iadd C dL_law_429 ?_
  refine gl_sld C h1 dL_law_430 ?_
  refine gl_aload_n C dL_law_431 0 0 rfl rfl ?_
  refine gl_iload_n C dL_law_432 3 3 rfl rfl ?_
  refine gl_iconst (v := 2) C dL_law_433 (by decide) ?_
  refine gl_iadd C dL_law_434 ?_
  refine gl_sld C h2 dL_law_435 ?_
  refine gl_aload_n C dL_law_436 0 0 rfl rfl ?_
  refine gl_iload_n C dL_law_437 3 3 rfl rfl ?_
  refine gl_iconst (v := 3) C dL_law_438 (by decide) ?_
  refine gl_iadd C dL_law_439 ?_
  refine gl_sld C h3 dL_law_440 ?_
  refine gl_callM (Mm' := d.2) (Nm' := Nm) (rest := [.int b.1]) (st2 := [.int d.1, .int b.1]) C (mX5_set (eL E) okM Mm Nm (xs (ix (x3 + 1))) (xs (ix (x3 + 2))) (xs (ix (x3 + 3))) d hd) lk_L_43 rfl (by decide) rfl rfl (Nat.le_of_ble_eq_true rfl) dL_law_441 rfl ?_
  refine gl_eq (tgt := 1499) C dL_law_444 (by decide) he ?_
  exact kk _ _ _ _ hR2
theorem lc_turn (C : OkL D cy K V ka E bs L xs) {Rel : Mi → Ml → Mi → Ml → Prop} (hS : SimT_turn Rel) (hR : Rel Mx Nx Mm Nm) {x3 : Int32} (h1 : inb (x3 + 1) L) (h2 : inb (x3 + 2) L) (h3 : inb (x3 + 3) L) (h4 : inb (x3 + 4) L) (h5 : inb (x3 + 5) L) (kk : ∀ (Mx : Mi) (Nx : Ml) (Mm : Mi) (Nm : Ml), Rel Mx Nx Mm Nm → GL D cy K V ka E Q 1499 [(0, .ref bs), (1, .ref (zA (zXE D cy K V ka E) 8 0)), (2, .ref (zA (zME D cy E) 6 0)), (3, .int x3)] [] Mx Nx Mm Nm) : GL D cy K V ka E Q 449 [(0, .ref bs), (1, .ref (zA (zXE D cy K V ka E) 8 0)), (2, .ref (zA (zME D cy E) 6 0)), (3, .int x3)] [] Mx Nx Mm Nm := by
  obtain ⟨b, d, hb, hd, he, hR2⟩ := hS Mx Nx Mm Nm hR (xs (ix (x3 + 1))) (xs (ix (x3 + 2)))
  refine gl_aload_n C dL_law_449 1 1 rfl rfl ?_
  refine gl_aload_n C dL_law_450 0 0 rfl rfl ?_
  refine gl_iload_n C dL_law_451 3 3 rfl rfl ?_
  refine gl_iconst (v := 1) C dL_law_452 (by decide) ?_
  refine gl_iadd C dL_law_453 ?_
  refine gl_sld C h1 dL_law_454 ?_
  refine gl_aload_n C dL_law_455 0 0 rfl rfl ?_
  refine gl_iload_n C dL_law_456 3 3 rfl rfl ?_
  refine gl_iconst (v := 2) C dL_law_457 (by decide) ?_
  refine gl_iadd C dL_law_458 ?_
  refine gl_sld C h2 dL_law_459 ?_
  refine gl_callX (Mx' := b.2) (Nx' := Nx) (rest := []) (st2 := [.int b.1]) C (mX4_turn (eL E) okX Mx Nx (xs (ix (x3 + 1))) (xs (ix (x3 + 2))) b hb) lk_L_44 rfl (by decide) rfl rfl (Nat.le_of_ble_eq_true rfl) dL_law_460 rfl ?_
  refine gl_aload_n C dL_law_463 2 2 rfl rfl ?_
  refine gl_aload_n C dL_law_464 0 0 rfl rfl ?_
  refine gl_iload_n C dL_law_465 3 3 rfl rfl ?_
  refine gl_iconst (v := 1) C dL_law_466 (by decide) ?_
  refine gl_iadd C dL_law_467 ?_
  refine gl_sld C h1 dL_law_468 ?_
  refine gl_aload_n C dL_law_469 0 0 rfl rfl ?_
  refine gl_iload_n C dL_law_470 3 3 rfl rfl ?_
  refine gl_iconst (v := 2) C dL_law_471 (by decide) ?_
  refine gl_iadd C dL_law_472 ?_
  refine gl_sld C h2 dL_law_473 ?_
  refine gl_callM (Mm' := d.2) (Nm' := Nm) (rest := [.int b.1]) (st2 := [.int d.1, .int b.1]) C (mX5_turn (eL E) okM Mm Nm (xs (ix (x3 + 1))) (xs (ix (x3 + 2))) d hd) lk_L_47 rfl (by decide) rfl rfl (Nat.le_of_ble_eq_true rfl) dL_law_474 rfl ?_
  refine gl_eq (tgt := 1499) C dL_law_477 (by decide) he ?_
  exact kk _ _ _ _ hR2
theorem lc_as (C : OkL D cy K V ka E bs L xs) {Rel : Mi → Ml → Mi → Ml → Prop} (hS : SimT_as Rel) (hR : Rel Mx Nx Mm Nm) {x3 : Int32} (h1 : inb (x3 + 1) L) (h2 : inb (x3 + 2) L) (h3 : inb (x3 + 3) L) (h4 : inb (x3 + 4) L) (h5 : inb (x3 + 5) L) (kk : ∀ (Mx : Mi) (Nx : Ml) (Mm : Mi) (Nm : Ml), Rel Mx Nx Mm Nm → GL D cy K V ka E Q 1499 [(0, .ref bs), (1, .ref (zA (zXE D cy K V ka E) 8 0)), (2, .ref (zA (zME D cy E) 6 0)), (3, .int x3)] [] Mx Nx Mm Nm) : GL D cy K V ka E Q 482 [(0, .ref bs), (1, .ref (zA (zXE D cy K V ka E) 8 0)), (2, .ref (zA (zME D cy E) 6 0)), (3, .int x3)] [] Mx Nx Mm Nm := by
  obtain ⟨b, d, hb, hd, he, hR2⟩ := hS Mx Nx Mm Nm hR (xs (ix (x3 + 1))) (xs (ix (x3 + 2)))
  refine gl_aload_n C dL_law_482 1 1 rfl rfl ?_
  refine gl_aload_n C dL_law_483 0 0 rfl rfl ?_
  refine gl_iload_n C dL_law_484 3 3 rfl rfl ?_
  refine gl_iconst (v := 1) C dL_law_485 (by decide) ?_
  refine gl_iadd C dL_law_486 ?_
  refine gl_sld C h1 dL_law_487 ?_
  refine gl_aload_n C dL_law_488 0 0 rfl rfl ?_
  refine gl_iload_n C dL_law_489 3 3 rfl rfl ?_
  refine gl_iconst (v := 2) C dL_law_490 (by decide) ?_
  refine gl_iadd C dL_law_491 ?_
  refine gl_sld C h2 dL_law_492 ?_
  refine gl_callX (Mx' := b.2) (Nx' := Nx) (rest := []) (st2 := [.int b.1]) C (mX4_as (eL E) okX Mx Nx (xs (ix (x3 + 1))) (xs (ix (x3 + 2))) b hb) lk_L_48 rfl (by decide) rfl rfl (Nat.le_of_ble_eq_true rfl) dL_law_493 rfl ?_
  refine gl_aload_n C dL_law_496 2 2 rfl rfl ?_
  refine gl_aload_n C dL_law_497 0 0 rfl rfl ?_
  refine gl_iload_n C dL_law_498 3 3 rfl rfl ?_
  refine gl_iconst (v := 1) C dL_law_499 (by decide) ?_
  refine gl_iadd C dL_law_500 ?_
  refine gl_sld C h1 dL_law_501 ?_
  refine gl_aload_n C dL_law_502 0 0 rfl rfl ?_
  refine gl_iload_n C dL_law_503 3 3 rfl rfl ?_
  refine gl_iconst (v := 2) C dL_law_504 (by decide) ?_
  refine gl_iadd C dL_law_505 ?_
  refine gl_sld C h2 dL_law_506 ?_
  refine gl_callM (Mm' := d.2) (Nm' := Nm) (rest := [.int b.1]) (st2 := [.int d.1, .int b.1]) C (mX5_as (eL E) okM Mm Nm (xs (ix (x3 + 1))) (xs (ix (x3 + 2))) d hd) lk_L_51 rfl (by decide) rfl rfl (Nat.le_of_ble_eq_true rfl) dL_law_507 rfl ?_
  refine gl_eq (tgt := 1499) C dL_law_510 (by decide) he ?_
  exact kk _ _ _ _ hR2
theorem lc_lend (C : OkL D cy K V ka E bs L xs) {Rel : Mi → Ml → Mi → Ml → Prop} (hS : SimT_lend Rel) (hR : Rel Mx Nx Mm Nm) {x3 : Int32} (h1 : inb (x3 + 1) L) (h2 : inb (x3 + 2) L) (h3 : inb (x3 + 3) L) (h4 : inb (x3 + 4) L) (h5 : inb (x3 + 5) L) (kk : ∀ (Mx : Mi) (Nx : Ml) (Mm : Mi) (Nm : Ml), Rel Mx Nx Mm Nm → GL D cy K V ka E Q 1499 [(0, .ref bs), (1, .ref (zA (zXE D cy K V ka E) 8 0)), (2, .ref (zA (zME D cy E) 6 0)), (3, .int x3)] [] Mx Nx Mm Nm) : GL D cy K V ka E Q 515 [(0, .ref bs), (1, .ref (zA (zXE D cy K V ka E) 8 0)), (2, .ref (zA (zME D cy E) 6 0)), (3, .int x3)] [] Mx Nx Mm Nm := by
  obtain ⟨b, d, hb, hd, he, hR2⟩ := hS Mx Nx Mm Nm hR (xs (ix (x3 + 1))) (xs (ix (x3 + 2))) (xs (ix (x3 + 3)))
  refine gl_aload_n C dL_law_515 1 1 rfl rfl ?_
  refine gl_aload_n C dL_law_516 0 0 rfl rfl ?_
  refine gl_iload_n C dL_law_517 3 3 rfl rfl ?_
  refine gl_iconst (v := 1) C dL_law_518 (by decide) ?_
  refine gl_iadd C dL_law_519 ?_
  refine gl_sld C h1 dL_law_520 ?_
  refine gl_aload_n C dL_law_521 0 0 rfl rfl ?_
  refine gl_iload_n C dL_law_522 3 3 rfl rfl ?_
  refine gl_iconst (v := 2) C dL_law_523 (by decide) ?_
  refine gl_iadd C dL_law_524 ?_
  refine gl_sld C h2 dL_law_525 ?_
  refine gl_aload_n C dL_law_526 0 0 rfl rfl ?_
  refine gl_iload_n C dL_law_527 3 3 rfl rfl ?_
  refine gl_iconst (v := 3) C dL_law_528 (by decide) ?_
  refine gl_iadd C dL_law_529 ?_
  refine gl_sld C h3 dL_law_530 ?_
  refine gl_callX (Mx' := b.2) (Nx' := Nx) (rest := []) (st2 := [.int b.1]) C (mX4_lend (eL E) okX Mx Nx (xs (ix (x3 + 1))) (xs (ix (x3 + 2))) (xs (ix (x3 + 3))) b hb) lk_L_52 rfl (by decide) rfl rfl (Nat.le_of_ble_eq_true rfl) dL_law_531 rfl ?_
  refine gl_aload_n C dL_law_534 2 2 rfl rfl ?_
  refine gl_aload_n C dL_law_535 0 0 rfl rfl ?_
  refine gl_iload_n C dL_law_536 3 3 rfl rfl ?_
  refine gl_iconst (v := 1) C dL_law_537 (by decide) ?_
  refine gl_iadd C dL_law_538 ?_
  refine gl_sld C h1 dL_law_539 ?_
  refine gl_aload_n C dL_law_540 0 0 rfl rfl ?_
  refine gl_iload_n C dL_law_541 3 3 rfl rfl ?_
  refine gl_iconst (v := 2) C dL_law_542 (by decide) ?_
  refine gl_iadd C dL_law_543 ?_
  refine gl_sld C h2 dL_law_544 ?_
  refine gl_aload_n C dL_law_545 0 0 rfl rfl ?_
  refine gl_iload_n C dL_law_546 3 3 rfl rfl ?_
  refine gl_iconst (v := 3) C dL_law_547 (by decide) ?_
  refine gl_iadd C dL_law_548 ?_
  refine gl_sld C h3 dL_law_549 ?_
  refine gl_callM (Mm' := d.2) (Nm' := Nm) (rest := [.int b.1]) (st2 := [.int d.1, .int b.1]) C (mX5_lend (eL E) okM Mm Nm (xs (ix (x3 + 1))) (xs (ix (x3 + 2))) (xs (ix (x3 + 3))) d hd) lk_L_55 rfl (by decide) rfl rfl (Nat.le_of_ble_eq_true rfl) dL_law_550 rfl ?_
  refine gl_eq (tgt := 1499) C dL_law_553 (by decide) he ?_
  exact kk _ _ _ _ hR2
theorem lc_hours (C : OkL D cy K V ka E bs L xs) {Rel : Mi → Ml → Mi → Ml → Prop} (hS : SimT_hours Rel) (hR : Rel Mx Nx Mm Nm) {x3 : Int32} (h1 : inb (x3 + 1) L) (h2 : inb (x3 + 2) L) (h3 : inb (x3 + 3) L) (h4 : inb (x3 + 4) L) (h5 : inb (x3 + 5) L) (kk : ∀ (Mx : Mi) (Nx : Ml) (Mm : Mi) (Nm : Ml), Rel Mx Nx Mm Nm → GL D cy K V ka E Q 1499 [(0, .ref bs), (1, .ref (zA (zXE D cy K V ka E) 8 0)), (2, .ref (zA (zME D cy E) 6 0)), (3, .int x3)] [] Mx Nx Mm Nm) : GL D cy K V ka E Q 558 [(0, .ref bs), (1, .ref (zA (zXE D cy K V ka E) 8 0)), (2, .ref (zA (zME D cy E) 6 0)), (3, .int x3)] [] Mx Nx Mm Nm := by
  obtain ⟨b, d, hb, hd, he, hR2⟩ := hS Mx Nx Mm Nm hR (xs (ix (x3 + 1)))
  refine gl_aload_n C dL_law_558 1 1 rfl rfl ?_
  refine gl_aload_n C dL_law_559 0 0 rfl rfl ?_
  refine gl_iload_n C dL_law_560 3 3 rfl rfl ?_
  refine gl_iconst (v := 1) C dL_law_561 (by decide) ?_
  refine gl_iadd C dL_law_562 ?_
  refine gl_sld C h1 dL_law_563 ?_
  refine gl_callX (Mx' := b.2) (Nx' := Nx) (rest := []) (st2 := [.int b.1]) C (mX4_hours (eL E) okX Mx Nx (xs (ix (x3 + 1))) b hb) lk_L_56 rfl (by decide) rfl rfl (Nat.le_of_ble_eq_true rfl) dL_law_564 rfl ?_
  refine gl_aload_n C dL_law_567 2 2 rfl rfl ?_
  refine gl_aload_n C dL_law_568 0 0 rfl rfl ?_
  refine gl_iload_n C dL_law_569 3 3 rfl rfl ?_
  refine gl_iconst (v := 1) C dL_law_570 (by decide) ?_
  refine gl_iadd C dL_law_571 ?_
  refine gl_sld C h1 dL_law_572 ?_
  refine gl_callM (Mm' := d.2) (Nm' := Nm) (rest := [.int b.1]) (st2 := [.int d.1, .int b.1]) C (mX5_hours (eL E) okM Mm Nm (xs (ix (x3 + 1))) d hd) lk_L_59 rfl (by decide) rfl rfl (Nat.le_of_ble_eq_true rfl) dL_law_573 rfl ?_
  refine gl_eq (tgt := 1499) C dL_law_576 (by decide) he ?_
  exact kk _ _ _ _ hR2
theorem lc_now (C : OkL D cy K V ka E bs L xs) {Rel : Mi → Ml → Mi → Ml → Prop} (hS : SimT_now Rel) (hR : Rel Mx Nx Mm Nm) {x3 : Int32} (h1 : inb (x3 + 1) L) (h2 : inb (x3 + 2) L) (h3 : inb (x3 + 3) L) (h4 : inb (x3 + 4) L) (h5 : inb (x3 + 5) L) (kk : ∀ (Mx : Mi) (Nx : Ml) (Mm : Mi) (Nm : Ml), Rel Mx Nx Mm Nm → GL D cy K V ka E Q 1499 [(0, .ref bs), (1, .ref (zA (zXE D cy K V ka E) 8 0)), (2, .ref (zA (zME D cy E) 6 0)), (3, .int x3)] [] Mx Nx Mm Nm) : GL D cy K V ka E Q 581 [(0, .ref bs), (1, .ref (zA (zXE D cy K V ka E) 8 0)), (2, .ref (zA (zME D cy E) 6 0)), (3, .int x3)] [] Mx Nx Mm Nm := by
  obtain ⟨b, d, hb, hd, he, hR2⟩ := hS Mx Nx Mm Nm hR (xs (ix (x3 + 1)))
  refine gl_aload_n C dL_law_581 1 1 rfl rfl ?_
  refine gl_aload_n C dL_law_582 0 0 rfl rfl ?_
  refine gl_iload_n C dL_law_583 3 3 rfl rfl ?_
  refine gl_iconst (v := 1) C dL_law_584 (by decide) ?_
  refine gl_iadd C dL_law_585 ?_
  refine gl_sld C h1 dL_law_586 ?_
  refine gl_callX (Mx' := b.2) (Nx' := Nx) (rest := []) (st2 := [.int b.1]) C (mX4_now (eL E) okX Mx Nx (xs (ix (x3 + 1))) b hb) lk_L_60 rfl (by decide) rfl rfl (Nat.le_of_ble_eq_true rfl) dL_law_587 rfl ?_
  refine gl_aload_n C dL_law_590 2 2 rfl rfl ?_
  refine gl_aload_n C dL_law_591 0 0 rfl rfl ?_
  refine gl_iload_n C dL_law_592 3 3 rfl rfl ?_
  refine gl_iconst (v := 1) C dL_law_593 (by decide) ?_
  refine gl_iadd C dL_law_594 ?_
  refine gl_sld C h1 dL_law_595 ?_
  refine gl_callM (Mm' := d.2) (Nm' := Nm) (rest := [.int b.1]) (st2 := [.int d.1, .int b.1]) C (mX5_now (eL E) okM Mm Nm (xs (ix (x3 + 1))) d hd) lk_L_63 rfl (by decide) rfl rfl (Nat.le_of_ble_eq_true rfl) dL_law_596 rfl ?_
  refine gl_eq (tgt := 1499) C dL_law_599 (by decide) he ?_
  exact kk _ _ _ _ hR2
theorem lc_on (C : OkL D cy K V ka E bs L xs) {Rel : Mi → Ml → Mi → Ml → Prop} (hS : SimT_on Rel) (hR : Rel Mx Nx Mm Nm) {x3 : Int32} (h1 : inb (x3 + 1) L) (h2 : inb (x3 + 2) L) (h3 : inb (x3 + 3) L) (h4 : inb (x3 + 4) L) (h5 : inb (x3 + 5) L) (kk : ∀ (Mx : Mi) (Nx : Ml) (Mm : Mi) (Nm : Ml), Rel Mx Nx Mm Nm → GL D cy K V ka E Q 1499 [(0, .ref bs), (1, .ref (zA (zXE D cy K V ka E) 8 0)), (2, .ref (zA (zME D cy E) 6 0)), (3, .int x3)] [] Mx Nx Mm Nm) : GL D cy K V ka E Q 604 [(0, .ref bs), (1, .ref (zA (zXE D cy K V ka E) 8 0)), (2, .ref (zA (zME D cy E) 6 0)), (3, .int x3)] [] Mx Nx Mm Nm := by
  obtain ⟨b, d, hb, hd, he, hR2⟩ := hS Mx Nx Mm Nm hR (xs (ix (x3 + 1))) (xs (ix (x3 + 2))) (xs (ix (x3 + 3)))
  refine gl_aload_n C dL_law_604 1 1 rfl rfl ?_
  refine gl_aload_n C dL_law_605 0 0 rfl rfl ?_
  refine gl_iload_n C dL_law_606 3 3 rfl rfl ?_
  refine gl_iconst (v := 1) C dL_law_607 (by decide) ?_
  refine gl_iadd C dL_law_608 ?_
  refine gl_sld C h1 dL_law_609 ?_
  refine gl_aload_n C dL_law_610 0 0 rfl rfl ?_
  refine gl_iload_n C dL_law_611 3 3 rfl rfl ?_
  refine gl_iconst (v := 2) C dL_law_612 (by decide) ?_
  refine gl_iadd C dL_law_613 ?_
  refine gl_sld C h2 dL_law_614 ?_
  refine gl_aload_n C dL_law_615 0 0 rfl rfl ?_
  refine gl_iload_n C dL_law_616 3 3 rfl rfl ?_
  refine gl_iconst (v := 3) C dL_law_617 (by decide) ?_
  refine gl_iadd C dL_law_618 ?_
  refine gl_sld C h3 dL_law_619 ?_
  refine gl_callX (Mx' := b.2) (Nx' := Nx) (rest := []) (st2 := [.int b.1]) C (mX4_on (eL E) okX Mx Nx (xs (ix (x3 + 1))) (xs (ix (x3 + 2))) (xs (ix (x3 + 3))) b hb) lk_L_64 rfl (by decide) rfl rfl (Nat.le_of_ble_eq_true rfl) dL_law_620 rfl ?_
  refine gl_aload_n C dL_law_623 2 2 rfl rfl ?_
  refine gl_aload_n C dL_law_624 0 0 rfl rfl ?_
  refine gl_iload_n C dL_law_625 3 3 rfl rfl ?_
  refine gl_iconst (v := 1) C dL_law_626 (by decide) ?_
  refine gl_iadd C dL_law_627 ?_
  refine gl_sld C h1 dL_law_628 ?_
  refine gl_aload_n C dL_law_629 0 0 rfl rfl ?_
  refine gl_iload_n C dL_law_630 3 3 rfl rfl ?_
  refine gl_iconst (v := 2) C dL_law_631 (by decide) ?_
  refine gl_iadd C dL_law_632 ?_
  refine gl_sld C h2 dL_law_633 ?_
  refine gl_aload_n C dL_law_634 0 0 rfl rfl ?_
  refine gl_iload_n C dL_law_635 3 3 rfl rfl ?_
  refine gl_iconst (v := 3) C dL_law_636 (by decide) ?_
  refine gl_iadd C dL_law_637 ?_
  refine gl_sld C h3 dL_law_638 ?_
  refine gl_callM (Mm' := d.2) (Nm' := Nm) (rest := [.int b.1]) (st2 := [.int d.1, .int b.1]) C (mX5_on (eL E) okM Mm Nm (xs (ix (x3 + 1))) (xs (ix (x3 + 2))) (xs (ix (x3 + 3))) d hd) lk_L_67 rfl (by decide) rfl rfl (Nat.le_of_ble_eq_true rfl) dL_law_639 rfl ?_
  refine gl_eq (tgt := 1499) C dL_law_642 (by decide) he ?_
  exact kk _ _ _ _ hR2
theorem lc_when (C : OkL D cy K V ka E bs L xs) {Rel : Mi → Ml → Mi → Ml → Prop} (hS : SimT_when Rel) (hR : Rel Mx Nx Mm Nm) {x3 : Int32} (h1 : inb (x3 + 1) L) (h2 : inb (x3 + 2) L) (h3 : inb (x3 + 3) L) (h4 : inb (x3 + 4) L) (h5 : inb (x3 + 5) L) (kk : ∀ (Mx : Mi) (Nx : Ml) (Mm : Mi) (Nm : Ml), Rel Mx Nx Mm Nm → GL D cy K V ka E Q 1499 [(0, .ref bs), (1, .ref (zA (zXE D cy K V ka E) 8 0)), (2, .ref (zA (zME D cy E) 6 0)), (3, .int x3)] [] Mx Nx Mm Nm) : GL D cy K V ka E Q 647 [(0, .ref bs), (1, .ref (zA (zXE D cy K V ka E) 8 0)), (2, .ref (zA (zME D cy E) 6 0)), (3, .int x3)] [] Mx Nx Mm Nm := by
  obtain ⟨b, d, hb, hd, he, hR2⟩ := hS Mx Nx Mm Nm hR (xs (ix (x3 + 1))) (xs (ix (x3 + 2)))
  refine gl_aload_n C dL_law_647 1 1 rfl rfl ?_
  refine gl_aload_n C dL_law_648 0 0 rfl rfl ?_
  refine gl_iload_n C dL_law_649 3 3 rfl rfl ?_
  refine gl_iconst (v := 1) C dL_law_650 (by decide) ?_
  refine gl_iadd C dL_law_651 ?_
  refine gl_sld C h1 dL_law_652 ?_
  refine gl_aload_n C dL_law_653 0 0 rfl rfl ?_
  refine gl_iload_n C dL_law_654 3 3 rfl rfl ?_
  refine gl_iconst (v := 2) C dL_law_655 (by decide) ?_
  refine gl_iadd C dL_law_656 ?_
  refine gl_sld C h2 dL_law_657 ?_
  refine gl_callX (Mx' := b.2) (Nx' := Nx) (rest := []) (st2 := [.int b.1]) C (mX4_when (eL E) okX Mx Nx (xs (ix (x3 + 1))) (xs (ix (x3 + 2))) b hb) lk_L_68 rfl (by decide) rfl rfl (Nat.le_of_ble_eq_true rfl) dL_law_658 rfl ?_
  refine gl_aload_n C dL_law_661 2 2 rfl rfl ?_
  refine gl_aload_n C dL_law_662 0 0 rfl rfl ?_
  refine gl_iload_n C dL_law_663 3 3 rfl rfl ?_
  refine gl_iconst (v := 1) C dL_law_664 (by decide) ?_
  refine gl_iadd C dL_law_665 ?_
  refine gl_sld C h1 dL_law_666 ?_
  refine gl_aload_n C dL_law_667 0 0 rfl rfl ?_
  refine gl_iload_n C dL_law_668 3 3 rfl rfl ?_
  refine gl_iconst (v := 2) C dL_law_669 (by decide) ?_
  refine gl_iadd C dL_law_670 ?_
  refine gl_sld C h2 dL_law_671 ?_
  refine gl_callM (Mm' := d.2) (Nm' := Nm) (rest := [.int b.1]) (st2 := [.int d.1, .int b.1]) C (mX5_when (eL E) okM Mm Nm (xs (ix (x3 + 1))) (xs (ix (x3 + 2))) d hd) lk_L_71 rfl (by decide) rfl rfl (Nat.le_of_ble_eq_true rfl) dL_law_672 rfl ?_
  refine gl_eq (tgt := 1499) C dL_law_675 (by decide) he ?_
  exact kk _ _ _ _ hR2
theorem lc_meet (C : OkL D cy K V ka E bs L xs) {Rel : Mi → Ml → Mi → Ml → Prop} (hS : SimT_meet Rel) (hR : Rel Mx Nx Mm Nm) {x3 : Int32} (h1 : inb (x3 + 1) L) (h2 : inb (x3 + 2) L) (h3 : inb (x3 + 3) L) (h4 : inb (x3 + 4) L) (h5 : inb (x3 + 5) L) (kk : ∀ (Mx : Mi) (Nx : Ml) (Mm : Mi) (Nm : Ml), Rel Mx Nx Mm Nm → GL D cy K V ka E Q 1499 [(0, .ref bs), (1, .ref (zA (zXE D cy K V ka E) 8 0)), (2, .ref (zA (zME D cy E) 6 0)), (3, .int x3)] [] Mx Nx Mm Nm) : GL D cy K V ka E Q 680 [(0, .ref bs), (1, .ref (zA (zXE D cy K V ka E) 8 0)), (2, .ref (zA (zME D cy E) 6 0)), (3, .int x3)] [] Mx Nx Mm Nm := by
  obtain ⟨b, d, hb, hd, he, hR2⟩ := hS Mx Nx Mm Nm hR (xs (ix (x3 + 1))) (xs (ix (x3 + 2)))
  refine gl_aload_n C dL_law_680 1 1 rfl rfl ?_
  refine gl_aload_n C dL_law_681 0 0 rfl rfl ?_
  refine gl_iload_n C dL_law_682 3 3 rfl rfl ?_
  refine gl_iconst (v := 1) C dL_law_683 (by decide) ?_
  refine gl_iadd C dL_law_684 ?_
  refine gl_sld C h1 dL_law_685 ?_
  refine gl_aload_n C dL_law_686 0 0 rfl rfl ?_
  refine gl_iload_n C dL_law_687 3 3 rfl rfl ?_
  refine gl_iconst (v := 2) C dL_law_688 (by decide) ?_
  refine gl_iadd C dL_law_689 ?_
  refine gl_sld C h2 dL_law_690 ?_
  refine gl_callX (Mx' := b.2) (Nx' := Nx) (rest := []) (st2 := [.int b.1]) C (mX4_meet (eL E) okX Mx Nx (xs (ix (x3 + 1))) (xs (ix (x3 + 2))) b hb) lk_L_72 rfl (by decide) rfl rfl (Nat.le_of_ble_eq_true rfl) dL_law_691 rfl ?_
  refine gl_aload_n C dL_law_694 2 2 rfl rfl ?_
  refine gl_aload_n C dL_law_695 0 0 rfl rfl ?_
  refine gl_iload_n C dL_law_696 3 3 rfl rfl ?_
  refine gl_iconst (v := 1) C dL_law_697 (by decide) ?_
  refine gl_iadd C dL_law_698 ?_
  refine gl_sld C h1 dL_law_699 ?_
  refine gl_aload_n C dL_law_700 0 0 rfl rfl ?_
  refine gl_iload_n C dL_law_701 3 3 rfl rfl ?_
  refine gl_iconst (v := 2) C dL_law_702 (by decide) ?_
  refine gl_iadd C dL_law_703 ?_
  refine gl_sld C h2 dL_law_704 ?_
  refine gl_callM (Mm' := d.2) (Nm' := Nm) (rest := [.int b.1]) (st2 := [.int d.1, .int b.1]) C (mX5_meet (eL E) okM Mm Nm (xs (ix (x3 + 1))) (xs (ix (x3 + 2))) d hd) lk_L_75 rfl (by decide) rfl rfl (Nat.le_of_ble_eq_true rfl) dL_law_705 rfl ?_
  refine gl_eq (tgt := 1499) C dL_law_708 (by decide) he ?_
  exact kk _ _ _ _ hR2
theorem lc_carries (C : OkL D cy K V ka E bs L xs) {Rel : Mi → Ml → Mi → Ml → Prop} (hS : SimT_carries Rel) (hR : Rel Mx Nx Mm Nm) {x3 : Int32} (h1 : inb (x3 + 1) L) (h2 : inb (x3 + 2) L) (h3 : inb (x3 + 3) L) (h4 : inb (x3 + 4) L) (h5 : inb (x3 + 5) L) (kk : ∀ (Mx : Mi) (Nx : Ml) (Mm : Mi) (Nm : Ml), Rel Mx Nx Mm Nm → GL D cy K V ka E Q 1499 [(0, .ref bs), (1, .ref (zA (zXE D cy K V ka E) 8 0)), (2, .ref (zA (zME D cy E) 6 0)), (3, .int x3)] [] Mx Nx Mm Nm) : GL D cy K V ka E Q 713 [(0, .ref bs), (1, .ref (zA (zXE D cy K V ka E) 8 0)), (2, .ref (zA (zME D cy E) 6 0)), (3, .int x3)] [] Mx Nx Mm Nm := by
  obtain ⟨b, d, hb, hd, he, hR2⟩ := hS Mx Nx Mm Nm hR (xs (ix (x3 + 1))) (xs (ix (x3 + 2)))
  refine gl_aload_n C dL_law_713 1 1 rfl rfl ?_
  refine gl_aload_n C dL_law_714 0 0 rfl rfl ?_
  refine gl_iload_n C dL_law_715 3 3 rfl rfl ?_
  refine gl_iconst (v := 1) C dL_law_716 (by decide) ?_
  refine gl_iadd C dL_law_717 ?_
  refine gl_sld C h1 dL_law_718 ?_
  refine gl_aload_n C dL_law_719 0 0 rfl rfl ?_
  refine gl_iload_n C dL_law_720 3 3 rfl rfl ?_
  refine gl_iconst (v := 2) C dL_law_721 (by decide) ?_
  refine gl_iadd C dL_law_722 ?_
  refine gl_sld C h2 dL_law_723 ?_
  refine gl_callX (Mx' := b.2) (Nx' := Nx) (rest := []) (st2 := [.int b.1]) C (mX4_carries (eL E) okX Mx Nx (xs (ix (x3 + 1))) (xs (ix (x3 + 2))) b hb) lk_L_76 rfl (by decide) rfl rfl (Nat.le_of_ble_eq_true rfl) dL_law_724 rfl ?_
  refine gl_aload_n C dL_law_727 2 2 rfl rfl ?_
  refine gl_aload_n C dL_law_728 0 0 rfl rfl ?_
  refine gl_iload_n C dL_law_729 3 3 rfl rfl ?_
  refine gl_iconst (v := 1) C dL_law_730 (by decide) ?_
  refine gl_iadd C dL_law_731 ?_
  refine gl_sld C h1 dL_law_732 ?_
  refine gl_aload_n C dL_law_733 0 0 rfl rfl ?_
  refine gl_iload_n C dL_law_734 3 3 rfl rfl ?_
  refine gl_iconst (v := 2) C dL_law_735 (by decide) ?_
  refine gl_iadd C dL_law_736 ?_
  refine gl_sld C h2 dL_law_737 ?_
  refine gl_callM (Mm' := d.2) (Nm' := Nm) (rest := [.int b.1]) (st2 := [.int d.1, .int b.1]) C (mX5_carries (eL E) okM Mm Nm (xs (ix (x3 + 1))) (xs (ix (x3 + 2))) d hd) lk_L_79 rfl (by decide) rfl rfl (Nat.le_of_ble_eq_true rfl) dL_law_738 rfl ?_
  refine gl_eq (tgt := 1499) C dL_law_741 (by decide) he ?_
  exact kk _ _ _ _ hR2
theorem lc_soonest (C : OkL D cy K V ka E bs L xs) {Rel : Mi → Ml → Mi → Ml → Prop} (hS : SimT_soonest Rel) (hR : Rel Mx Nx Mm Nm) {x3 : Int32} (h1 : inb (x3 + 1) L) (h2 : inb (x3 + 2) L) (h3 : inb (x3 + 3) L) (h4 : inb (x3 + 4) L) (h5 : inb (x3 + 5) L) (kk : ∀ (Mx : Mi) (Nx : Ml) (Mm : Mi) (Nm : Ml), Rel Mx Nx Mm Nm → GL D cy K V ka E Q 1499 [(0, .ref bs), (1, .ref (zA (zXE D cy K V ka E) 8 0)), (2, .ref (zA (zME D cy E) 6 0)), (3, .int x3)] [] Mx Nx Mm Nm) : GL D cy K V ka E Q 746 [(0, .ref bs), (1, .ref (zA (zXE D cy K V ka E) 8 0)), (2, .ref (zA (zME D cy E) 6 0)), (3, .int x3)] [] Mx Nx Mm Nm := by
  obtain ⟨b, d, hb, hd, he, hR2⟩ := hS Mx Nx Mm Nm hR (xs (ix (x3 + 1))) (xs (ix (x3 + 2)))
  refine gl_aload_n C dL_law_746 1 1 rfl rfl ?_
  refine gl_aload_n C dL_law_747 0 0 rfl rfl ?_
  refine gl_iload_n C dL_law_748 3 3 rfl rfl ?_
  refine gl_iconst (v := 1) C dL_law_749 (by decide) ?_
  refine gl_iadd C dL_law_750 ?_
  refine gl_sld C h1 dL_law_751 ?_
  refine gl_aload_n C dL_law_752 0 0 rfl rfl ?_
  refine gl_iload_n C dL_law_753 3 3 rfl rfl ?_
  refine gl_iconst (v := 2) C dL_law_754 (by decide) ?_
  refine gl_iadd C dL_law_755 ?_
  refine gl_sld C h2 dL_law_756 ?_
  refine gl_callX (Mx' := b.2) (Nx' := Nx) (rest := []) (st2 := [.int b.1]) C (mX4_soonest (eL E) okX Mx Nx (xs (ix (x3 + 1))) (xs (ix (x3 + 2))) b hb) lk_L_80 rfl (by decide) rfl rfl (Nat.le_of_ble_eq_true rfl) dL_law_757 rfl ?_
  refine gl_aload_n C dL_law_760 2 2 rfl rfl ?_
  refine gl_aload_n C dL_law_761 0 0 rfl rfl ?_
  refine gl_iload_n C dL_law_762 3 3 rfl rfl ?_
  refine gl_iconst (v := 1) C dL_law_763 (by decide) ?_
  refine gl_iadd C dL_law_764 ?_
  refine gl_sld C h1 dL_law_765 ?_
  refine gl_aload_n C dL_law_766 0 0 rfl rfl ?_
  refine gl_iload_n C dL_law_767 3 3 rfl rfl ?_
  refine gl_iconst (v := 2) C dL_law_768 (by decide) ?_
  refine gl_iadd C dL_law_769 ?_
  refine gl_sld C h2 dL_law_770 ?_
  refine gl_callM (Mm' := d.2) (Nm' := Nm) (rest := [.int b.1]) (st2 := [.int d.1, .int b.1]) C (mX5_soonest (eL E) okM Mm Nm (xs (ix (x3 + 1))) (xs (ix (x3 + 2))) d hd) lk_L_83 rfl (by decide) rfl rfl (Nat.le_of_ble_eq_true rfl) dL_law_771 rfl ?_
  refine gl_eq (tgt := 1499) C dL_law_774 (by decide) he ?_
  exact kk _ _ _ _ hR2
theorem lc_where (C : OkL D cy K V ka E bs L xs) {Rel : Mi → Ml → Mi → Ml → Prop} (hS : SimT_where Rel) (hR : Rel Mx Nx Mm Nm) {x3 : Int32} (h1 : inb (x3 + 1) L) (h2 : inb (x3 + 2) L) (h3 : inb (x3 + 3) L) (h4 : inb (x3 + 4) L) (h5 : inb (x3 + 5) L) (kk : ∀ (Mx : Mi) (Nx : Ml) (Mm : Mi) (Nm : Ml), Rel Mx Nx Mm Nm → GL D cy K V ka E Q 1499 [(0, .ref bs), (1, .ref (zA (zXE D cy K V ka E) 8 0)), (2, .ref (zA (zME D cy E) 6 0)), (3, .int x3)] [] Mx Nx Mm Nm) : GL D cy K V ka E Q 779 [(0, .ref bs), (1, .ref (zA (zXE D cy K V ka E) 8 0)), (2, .ref (zA (zME D cy E) 6 0)), (3, .int x3)] [] Mx Nx Mm Nm := by
  obtain ⟨b, d, hb, hd, he, hR2⟩ := hS Mx Nx Mm Nm hR (xs (ix (x3 + 1))) (xs (ix (x3 + 2)))
  refine gl_aload_n C dL_law_779 1 1 rfl rfl ?_
  refine gl_aload_n C dL_law_780 0 0 rfl rfl ?_
  refine gl_iload_n C dL_law_781 3 3 rfl rfl ?_
  refine gl_iconst (v := 1) C dL_law_782 (by decide) ?_
  refine gl_iadd C dL_law_783 ?_
  refine gl_sld C h1 dL_law_784 ?_
  refine gl_aload_n C dL_law_785 0 0 rfl rfl ?_
  refine gl_iload_n C dL_law_786 3 3 rfl rfl ?_
  refine gl_iconst (v := 2) C dL_law_787 (by decide) ?_
  refine gl_iadd C dL_law_788 ?_
  refine gl_sld C h2 dL_law_789 ?_
  refine gl_callX (Mx' := b.2) (Nx' := Nx) (rest := []) (st2 := [.int b.1]) C (mX4_where (eL E) okX Mx Nx (xs (ix (x3 + 1))) (xs (ix (x3 + 2))) b hb) lk_L_84 rfl (by decide) rfl rfl (Nat.le_of_ble_eq_true rfl) dL_law_790 rfl ?_
  refine gl_aload_n C dL_law_793 2 2 rfl rfl ?_
  refine gl_aload_n C dL_law_794 0 0 rfl rfl ?_
  refine gl_iload_n C dL_law_795 3 3 rfl rfl ?_
  refine gl_iconst (v := 1) C dL_law_796 (by decide) ?_
  refine gl_iadd C dL_law_797 ?_
  refine gl_sld C h1 dL_law_798 ?_
  refine gl_aload_n C dL_law_799 0 0 rfl rfl ?_
  refine gl_iload_n C dL_law_800 3 3 rfl rfl ?_
  refine gl_iconst (v := 2) C dL_law_801 (by decide) ?_
  refine gl_iadd C dL_law_802 ?_
  refine gl_sld C h2 dL_law_803 ?_
  refine gl_callM (Mm' := d.2) (Nm' := Nm) (rest := [.int b.1]) (st2 := [.int d.1, .int b.1]) C (mX5_where (eL E) okM Mm Nm (xs (ix (x3 + 1))) (xs (ix (x3 + 2))) d hd) lk_L_87 rfl (by decide) rfl rfl (Nat.le_of_ble_eq_true rfl) dL_law_804 rfl ?_
  refine gl_eq (tgt := 1499) C dL_law_807 (by decide) he ?_
  exact kk _ _ _ _ hR2
theorem lc_waits (C : OkL D cy K V ka E bs L xs) {Rel : Mi → Ml → Mi → Ml → Prop} (hS : SimT_waits Rel) (hR : Rel Mx Nx Mm Nm) {x3 : Int32} (h1 : inb (x3 + 1) L) (h2 : inb (x3 + 2) L) (h3 : inb (x3 + 3) L) (h4 : inb (x3 + 4) L) (h5 : inb (x3 + 5) L) (kk : ∀ (Mx : Mi) (Nx : Ml) (Mm : Mi) (Nm : Ml), Rel Mx Nx Mm Nm → GL D cy K V ka E Q 1499 [(0, .ref bs), (1, .ref (zA (zXE D cy K V ka E) 8 0)), (2, .ref (zA (zME D cy E) 6 0)), (3, .int x3)] [] Mx Nx Mm Nm) : GL D cy K V ka E Q 812 [(0, .ref bs), (1, .ref (zA (zXE D cy K V ka E) 8 0)), (2, .ref (zA (zME D cy E) 6 0)), (3, .int x3)] [] Mx Nx Mm Nm := by
  obtain ⟨b, d, hb, hd, he, hR2⟩ := hS Mx Nx Mm Nm hR (xs (ix (x3 + 1))) (xs (ix (x3 + 2)))
  refine gl_aload_n C dL_law_812 1 1 rfl rfl ?_
  refine gl_aload_n C dL_law_813 0 0 rfl rfl ?_
  refine gl_iload_n C dL_law_814 3 3 rfl rfl ?_
  refine gl_iconst (v := 1) C dL_law_815 (by decide) ?_
  refine gl_iadd C dL_law_816 ?_
  refine gl_sld C h1 dL_law_817 ?_
  refine gl_aload_n C dL_law_818 0 0 rfl rfl ?_
  refine gl_iload_n C dL_law_819 3 3 rfl rfl ?_
  refine gl_iconst (v := 2) C dL_law_820 (by decide) ?_
  refine gl_iadd C dL_law_821 ?_
  refine gl_sld C h2 dL_law_822 ?_
  refine gl_callX (Mx' := b.2) (Nx' := Nx) (rest := []) (st2 := [.int b.1]) C (mX4_waits (eL E) okX Mx Nx (xs (ix (x3 + 1))) (xs (ix (x3 + 2))) b hb) lk_L_88 rfl (by decide) rfl rfl (Nat.le_of_ble_eq_true rfl) dL_law_823 rfl ?_
  refine gl_aload_n C dL_law_826 2 2 rfl rfl ?_
  refine gl_aload_n C dL_law_827 0 0 rfl rfl ?_
  refine gl_iload_n C dL_law_828 3 3 rfl rfl ?_
  refine gl_iconst (v := 1) C dL_law_829 (by decide) ?_
  refine gl_iadd C dL_law_830 ?_
  refine gl_sld C h1 dL_law_831 ?_
  refine gl_aload_n C dL_law_832 0 0 rfl rfl ?_
  refine gl_iload_n C dL_law_833 3 3 rfl rfl ?_
  refine gl_iconst (v := 2) C dL_law_834 (by decide) ?_
  refine gl_iadd C dL_law_835 ?_
  refine gl_sld C h2 dL_law_836 ?_
  refine gl_callM (Mm' := d.2) (Nm' := Nm) (rest := [.int b.1]) (st2 := [.int d.1, .int b.1]) C (mX5_waits (eL E) okM Mm Nm (xs (ix (x3 + 1))) (xs (ix (x3 + 2))) d hd) lk_L_91 rfl (by decide) rfl rfl (Nat.le_of_ble_eq_true rfl) dL_law_837 rfl ?_
  refine gl_eq (tgt := 1499) C dL_law_840 (by decide) he ?_
  exact kk _ _ _ _ hR2
theorem lc_waterhole (C : OkL D cy K V ka E bs L xs) {Rel : Mi → Ml → Mi → Ml → Prop} (hS : SimT_waterhole Rel) (hR : Rel Mx Nx Mm Nm) {x3 : Int32} (h1 : inb (x3 + 1) L) (h2 : inb (x3 + 2) L) (h3 : inb (x3 + 3) L) (h4 : inb (x3 + 4) L) (h5 : inb (x3 + 5) L) (kk : ∀ (Mx : Mi) (Nx : Ml) (Mm : Mi) (Nm : Ml), Rel Mx Nx Mm Nm → GL D cy K V ka E Q 1499 [(0, .ref bs), (1, .ref (zA (zXE D cy K V ka E) 8 0)), (2, .ref (zA (zME D cy E) 6 0)), (3, .int x3)] [] Mx Nx Mm Nm) : GL D cy K V ka E Q 845 [(0, .ref bs), (1, .ref (zA (zXE D cy K V ka E) 8 0)), (2, .ref (zA (zME D cy E) 6 0)), (3, .int x3)] [] Mx Nx Mm Nm := by
  obtain ⟨b, d, hb, hd, he, hR2⟩ := hS Mx Nx Mm Nm hR (xs (ix (x3 + 1)))
  refine gl_aload_n C dL_law_845 1 1 rfl rfl ?_
  refine gl_aload_n C dL_law_846 0 0 rfl rfl ?_
  refine gl_iload_n C dL_law_847 3 3 rfl rfl ?_
  refine gl_iconst (v := 1) C dL_law_848 (by decide) ?_
  refine gl_iadd C dL_law_849 ?_
  refine gl_sld C h1 dL_law_850 ?_
  refine gl_callX (Mx' := b.2) (Nx' := Nx) (rest := []) (st2 := [.int b.1]) C (mX4_waterhole (eL E) okX Mx Nx (xs (ix (x3 + 1))) b hb) lk_L_92 rfl (by decide) rfl rfl (Nat.le_of_ble_eq_true rfl) dL_law_851 rfl ?_
  refine gl_aload_n C dL_law_854 2 2 rfl rfl ?_
  refine gl_aload_n C dL_law_855 0 0 rfl rfl ?_
  refine gl_iload_n C dL_law_856 3 3 rfl rfl ?_
  refine gl_iconst (v := 1) C dL_law_857 (by decide) ?_
  refine gl_iadd C dL_law_858 ?_
  refine gl_sld C h1 dL_law_859 ?_
  refine gl_callM (Mm' := d.2) (Nm' := Nm) (rest := [.int b.1]) (st2 := [.int d.1, .int b.1]) C (mX5_waterhole (eL E) okM Mm Nm (xs (ix (x3 + 1))) d hd) lk_L_95 rfl (by decide) rfl rfl (Nat.le_of_ble_eq_true rfl) dL_law_860 rfl ?_
  refine gl_eq (tgt := 1499) C dL_law_863 (by decide) he ?_
  exact kk _ _ _ _ hR2
theorem lc_many (C : OkL D cy K V ka E bs L xs) {Rel : Mi → Ml → Mi → Ml → Prop} (hS : SimT_many Rel) (hR : Rel Mx Nx Mm Nm) {x3 : Int32} (h1 : inb (x3 + 1) L) (h2 : inb (x3 + 2) L) (h3 : inb (x3 + 3) L) (h4 : inb (x3 + 4) L) (h5 : inb (x3 + 5) L) (kk : ∀ (Mx : Mi) (Nx : Ml) (Mm : Mi) (Nm : Ml), Rel Mx Nx Mm Nm → GL D cy K V ka E Q 1499 [(0, .ref bs), (1, .ref (zA (zXE D cy K V ka E) 8 0)), (2, .ref (zA (zME D cy E) 6 0)), (3, .int x3)] [] Mx Nx Mm Nm) : GL D cy K V ka E Q 868 [(0, .ref bs), (1, .ref (zA (zXE D cy K V ka E) 8 0)), (2, .ref (zA (zME D cy E) 6 0)), (3, .int x3)] [] Mx Nx Mm Nm := by
  obtain ⟨b, d, hb, hd, he, hR2⟩ := hS Mx Nx Mm Nm hR (xs (ix (x3 + 1))) (xs (ix (x3 + 2)))
  refine gl_aload_n C dL_law_868 1 1 rfl rfl ?_
  refine gl_aload_n C dL_law_869 0 0 rfl rfl ?_
  refine gl_iload_n C dL_law_870 3 3 rfl rfl ?_
  refine gl_iconst (v := 1) C dL_law_871 (by decide) ?_
  refine gl_iadd C dL_law_872 ?_
  refine gl_sld C h1 dL_law_873 ?_
  refine gl_aload_n C dL_law_874 0 0 rfl rfl ?_
  refine gl_iload_n C dL_law_875 3 3 rfl rfl ?_
  refine gl_iconst (v := 2) C dL_law_876 (by decide) ?_
  refine gl_iadd C dL_law_877 ?_
  refine gl_sld C h2 dL_law_878 ?_
  refine gl_callX (Mx' := b.2) (Nx' := Nx) (rest := []) (st2 := [.int b.1]) C (mX4_many (eL E) okX Mx Nx (xs (ix (x3 + 1))) (xs (ix (x3 + 2))) b hb) lk_L_96 rfl (by decide) rfl rfl (Nat.le_of_ble_eq_true rfl) dL_law_879 rfl ?_
  refine gl_aload_n C dL_law_882 2 2 rfl rfl ?_
  refine gl_aload_n C dL_law_883 0 0 rfl rfl ?_
  refine gl_iload_n C dL_law_884 3 3 rfl rfl ?_
  refine gl_iconst (v := 1) C dL_law_885 (by decide) ?_
  refine gl_iadd C dL_law_886 ?_
  refine gl_sld C h1 dL_law_887 ?_
  refine gl_aload_n C dL_law_888 0 0 rfl rfl ?_
  refine gl_iload_n C dL_law_889 3 3 rfl rfl ?_
  refine gl_iconst (v := 2) C dL_law_890 (by decide) ?_
  refine gl_iadd C dL_law_891 ?_
  refine gl_sld C h2 dL_law_892 ?_
  refine gl_callM (Mm' := d.2) (Nm' := Nm) (rest := [.int b.1]) (st2 := [.int d.1, .int b.1]) C (mX5_many (eL E) okM Mm Nm (xs (ix (x3 + 1))) (xs (ix (x3 + 2))) d hd) lk_L_99 rfl (by decide) rfl rfl (Nat.le_of_ble_eq_true rfl) dL_law_893 rfl ?_
  refine gl_eq (tgt := 1499) C dL_law_896 (by decide) he ?_
  exact kk _ _ _ _ hR2
theorem lc_both (C : OkL D cy K V ka E bs L xs) {Rel : Mi → Ml → Mi → Ml → Prop} (hS : SimT_both Rel) (hR : Rel Mx Nx Mm Nm) {x3 : Int32} (h1 : inb (x3 + 1) L) (h2 : inb (x3 + 2) L) (h3 : inb (x3 + 3) L) (h4 : inb (x3 + 4) L) (h5 : inb (x3 + 5) L) (kk : ∀ (Mx : Mi) (Nx : Ml) (Mm : Mi) (Nm : Ml), Rel Mx Nx Mm Nm → GL D cy K V ka E Q 1499 [(0, .ref bs), (1, .ref (zA (zXE D cy K V ka E) 8 0)), (2, .ref (zA (zME D cy E) 6 0)), (3, .int x3)] [] Mx Nx Mm Nm) : GL D cy K V ka E Q 901 [(0, .ref bs), (1, .ref (zA (zXE D cy K V ka E) 8 0)), (2, .ref (zA (zME D cy E) 6 0)), (3, .int x3)] [] Mx Nx Mm Nm := by
  obtain ⟨b, d, hb, hd, he, hR2⟩ := hS Mx Nx Mm Nm hR (xs (ix (x3 + 1))) (xs (ix (x3 + 2))) (xs (ix (x3 + 3)))
  refine gl_aload_n C dL_law_901 1 1 rfl rfl ?_
  refine gl_aload_n C dL_law_902 0 0 rfl rfl ?_
  refine gl_iload_n C dL_law_903 3 3 rfl rfl ?_
  refine gl_iconst (v := 1) C dL_law_904 (by decide) ?_
  refine gl_iadd C dL_law_905 ?_
  refine gl_sld C h1 dL_law_906 ?_
  refine gl_aload_n C dL_law_907 0 0 rfl rfl ?_
  refine gl_iload_n C dL_law_908 3 3 rfl rfl ?_
  refine gl_iconst (v := 2) C dL_law_909 (by decide) ?_
  refine gl_iadd C dL_law_910 ?_
  refine gl_sld C h2 dL_law_911 ?_
  refine gl_aload_n C dL_law_912 0 0 rfl rfl ?_
  refine gl_iload_n C dL_law_913 3 3 rfl rfl ?_
  refine gl_iconst (v := 3) C dL_law_914 (by decide) ?_
  refine gl_iadd C dL_law_915 ?_
  refine gl_sld C h3 dL_law_916 ?_
  refine gl_callX (Mx' := b.2) (Nx' := Nx) (rest := []) (st2 := [.int b.1]) C (mX4_both (eL E) okX Mx Nx (xs (ix (x3 + 1))) (xs (ix (x3 + 2))) (xs (ix (x3 + 3))) b hb) lk_L_100 rfl (by decide) rfl rfl (Nat.le_of_ble_eq_true rfl) dL_law_917 rfl ?_
  refine gl_aload_n C dL_law_920 2 2 rfl rfl ?_
  refine gl_aload_n C dL_law_921 0 0 rfl rfl ?_
  refine gl_iload_n C dL_law_922 3 3 rfl rfl ?_
  refine gl_iconst (v := 1) C dL_law_923 (by decide) ?_
  refine gl_iadd C dL_law_924 ?_
  refine gl_sld C h1 dL_law_925 ?_
  refine gl_aload_n C dL_law_926 0 0 rfl rfl ?_
  refine gl_iload_n C dL_law_927 3 3 rfl rfl ?_
  refine gl_iconst (v := 2) C dL_law_928 (by decide) ?_
  refine gl_iadd C dL_law_929 ?_
  refine gl_sld C h2 dL_law_930 ?_
  refine gl_aload_n C dL_law_931 0 0 rfl rfl ?_
  refine gl_iload_n C dL_law_932 3 3 rfl rfl ?_
  refine gl_iconst (v := 3) C dL_law_933 (by decide) ?_
  refine gl_iadd C dL_law_934 ?_
  refine gl_sld C h3 dL_law_935 ?_
  refine gl_callM (Mm' := d.2) (Nm' := Nm) (rest := [.int b.1]) (st2 := [.int d.1, .int b.1]) C (mX5_both (eL E) okM Mm Nm (xs (ix (x3 + 1))) (xs (ix (x3 + 2))) (xs (ix (x3 + 3))) d hd) lk_L_103 rfl (by decide) rfl rfl (Nat.le_of_ble_eq_true rfl) dL_law_936 rfl ?_
  refine gl_eq (tgt := 1499) C dL_law_939 (by decide) he ?_
  exact kk _ _ _ _ hR2
theorem lc_censors (C : OkL D cy K V ka E bs L xs) {Rel : Mi → Ml → Mi → Ml → Prop} (hS : SimT_censors Rel) (hR : Rel Mx Nx Mm Nm) {x3 : Int32} (h1 : inb (x3 + 1) L) (h2 : inb (x3 + 2) L) (h3 : inb (x3 + 3) L) (h4 : inb (x3 + 4) L) (h5 : inb (x3 + 5) L) (kk : ∀ (Mx : Mi) (Nx : Ml) (Mm : Mi) (Nm : Ml), Rel Mx Nx Mm Nm → GL D cy K V ka E Q 1499 [(0, .ref bs), (1, .ref (zA (zXE D cy K V ka E) 8 0)), (2, .ref (zA (zME D cy E) 6 0)), (3, .int x3)] [] Mx Nx Mm Nm) : GL D cy K V ka E Q 944 [(0, .ref bs), (1, .ref (zA (zXE D cy K V ka E) 8 0)), (2, .ref (zA (zME D cy E) 6 0)), (3, .int x3)] [] Mx Nx Mm Nm := by
  obtain ⟨b, d, hb, hd, he, hR2⟩ := hS Mx Nx Mm Nm hR (xs (ix (x3 + 1))) (xs (ix (x3 + 2))) (xs (ix (x3 + 3)))
  refine gl_aload_n C dL_law_944 1 1 rfl rfl ?_
  refine gl_aload_n C dL_law_945 0 0 rfl rfl ?_
  refine gl_iload_n C dL_law_946 3 3 rfl rfl ?_
  refine gl_iconst (v := 1) C dL_law_947 (by decide) ?_
  refine gl_iadd C dL_law_948 ?_
  refine gl_sld C h1 dL_law_949 ?_
  refine gl_aload_n C dL_law_950 0 0 rfl rfl ?_
  refine gl_iload_n C dL_law_951 3 3 rfl rfl ?_
  refine gl_iconst (v := 2) C dL_law_952 (by decide) ?_
  refine gl_iadd C dL_law_953 ?_
  refine gl_sld C h2 dL_law_954 ?_
  refine gl_aload_n C dL_law_955 0 0 rfl rfl ?_
  refine gl_iload_n C dL_law_956 3 3 rfl rfl ?_
  refine gl_iconst (v := 3) C dL_law_957 (by decide) ?_
  refine gl_iadd C dL_law_958 ?_
  refine gl_sld C h3 dL_law_959 ?_
  refine gl_callX (Mx' := b.2) (Nx' := Nx) (rest := []) (st2 := [.int b.1]) C (mX4_censors (eL E) okX Mx Nx (xs (ix (x3 + 1))) (xs (ix (x3 + 2))) (xs (ix (x3 + 3))) b hb) lk_L_104 rfl (by decide) rfl rfl (Nat.le_of_ble_eq_true rfl) dL_law_960 rfl ?_
  refine gl_aload_n C dL_law_963 2 2 rfl rfl ?_
  refine gl_aload_n C dL_law_964 0 0 rfl rfl ?_
  refine gl_iload_n C dL_law_965 3 3 rfl rfl ?_
  refine gl_iconst (v := 1) C dL_law_966 (by decide) ?_
  refine gl_iadd C dL_law_967 ?_
  refine gl_sld C h1 dL_law_968 ?_
  refine gl_aload_n C dL_law_969 0 0 rfl rfl ?_
  refine gl_iload_n C dL_law_970 3 3 rfl rfl ?_
  refine gl_iconst (v := 2) C dL_law_971 (by decide) ?_
  refine gl_iadd C dL_law_972 ?_
  refine gl_sld C h2 dL_law_973 ?_
  refine gl_aload_n C dL_law_974 0 0 rfl rfl ?_
  refine gl_iload_n C dL_law_975 3 3 rfl rfl ?_
  refine gl_iconst (v := 3) C dL_law_976 (by decide) ?_
  refine gl_iadd C dL_law_977 ?_
  refine gl_sld C h3 dL_law_978 ?_
  refine gl_callM (Mm' := d.2) (Nm' := Nm) (rest := [.int b.1]) (st2 := [.int d.1, .int b.1]) C (mX5_censors (eL E) okM Mm Nm (xs (ix (x3 + 1))) (xs (ix (x3 + 2))) (xs (ix (x3 + 3))) d hd) lk_L_107 rfl (by decide) rfl rfl (Nat.le_of_ble_eq_true rfl) dL_law_979 rfl ?_
  refine gl_eq (tgt := 1499) C dL_law_982 (by decide) he ?_
  exact kk _ _ _ _ hR2
theorem lc_tips (C : OkL D cy K V ka E bs L xs) {Rel : Mi → Ml → Mi → Ml → Prop} (hS : SimT_tips Rel) (hR : Rel Mx Nx Mm Nm) {x3 : Int32} (h1 : inb (x3 + 1) L) (h2 : inb (x3 + 2) L) (h3 : inb (x3 + 3) L) (h4 : inb (x3 + 4) L) (h5 : inb (x3 + 5) L) (kk : ∀ (Mx : Mi) (Nx : Ml) (Mm : Mi) (Nm : Ml), Rel Mx Nx Mm Nm → GL D cy K V ka E Q 1499 [(0, .ref bs), (1, .ref (zA (zXE D cy K V ka E) 8 0)), (2, .ref (zA (zME D cy E) 6 0)), (3, .int x3)] [] Mx Nx Mm Nm) : GL D cy K V ka E Q 987 [(0, .ref bs), (1, .ref (zA (zXE D cy K V ka E) 8 0)), (2, .ref (zA (zME D cy E) 6 0)), (3, .int x3)] [] Mx Nx Mm Nm := by
  obtain ⟨b, d, hb, hd, he, hR2⟩ := hS Mx Nx Mm Nm hR (xs (ix (x3 + 1))) (xs (ix (x3 + 2)))
  refine gl_aload_n C dL_law_987 1 1 rfl rfl ?_
  refine gl_aload_n C dL_law_988 0 0 rfl rfl ?_
  refine gl_iload_n C dL_law_989 3 3 rfl rfl ?_
  refine gl_iconst (v := 1) C dL_law_990 (by decide) ?_
  refine gl_iadd C dL_law_991 ?_
  refine gl_sld C h1 dL_law_992 ?_
  refine gl_aload_n C dL_law_993 0 0 rfl rfl ?_
  refine gl_iload_n C dL_law_994 3 3 rfl rfl ?_
  refine gl_iconst (v := 2) C dL_law_995 (by decide) ?_
  refine gl_iadd C dL_law_996 ?_
  refine gl_sld C h2 dL_law_997 ?_
  refine gl_callX (Mx' := b.2) (Nx' := Nx) (rest := []) (st2 := [.int b.1]) C (mX4_tips (eL E) okX Mx Nx (xs (ix (x3 + 1))) (xs (ix (x3 + 2))) b hb) lk_L_108 rfl (by decide) rfl rfl (Nat.le_of_ble_eq_true rfl) dL_law_998 rfl ?_
  refine gl_aload_n C dL_law_1001 2 2 rfl rfl ?_
  refine gl_aload_n C dL_law_1002 0 0 rfl rfl ?_
  refine gl_iload_n C dL_law_1003 3 3 rfl rfl ?_
  refine gl_iconst (v := 1) C dL_law_1004 (by decide) ?_
  refine gl_iadd C dL_law_1005 ?_
  refine gl_sld C h1 dL_law_1006 ?_
  refine gl_aload_n C dL_law_1007 0 0 rfl rfl ?_
  refine gl_iload_n C dL_law_1008 3 3 rfl rfl ?_
  refine gl_iconst (v := 2) C dL_law_1009 (by decide) ?_
  refine gl_iadd C dL_law_1010 ?_
  refine gl_sld C h2 dL_law_1011 ?_
  refine gl_callM (Mm' := d.2) (Nm' := Nm) (rest := [.int b.1]) (st2 := [.int d.1, .int b.1]) C (mX5_tips (eL E) okM Mm Nm (xs (ix (x3 + 1))) (xs (ix (x3 + 2))) d hd) lk_L_111 rfl (by decide) rfl rfl (Nat.le_of_ble_eq_true rfl) dL_law_1012 rfl ?_
  refine gl_eq (tgt := 1499) C dL_law_1015 (by decide) he ?_
  exact kk _ _ _ _ hR2
theorem lc_spring (C : OkL D cy K V ka E bs L xs) {Rel : Mi → Ml → Mi → Ml → Prop} (hS : SimT_spring Rel) (hR : Rel Mx Nx Mm Nm) {x3 : Int32} (h1 : inb (x3 + 1) L) (h2 : inb (x3 + 2) L) (h3 : inb (x3 + 3) L) (h4 : inb (x3 + 4) L) (h5 : inb (x3 + 5) L) (kk : ∀ (Mx : Mi) (Nx : Ml) (Mm : Mi) (Nm : Ml), Rel Mx Nx Mm Nm → GL D cy K V ka E Q 1499 [(0, .ref bs), (1, .ref (zA (zXE D cy K V ka E) 8 0)), (2, .ref (zA (zME D cy E) 6 0)), (3, .int x3)] [] Mx Nx Mm Nm) : GL D cy K V ka E Q 1020 [(0, .ref bs), (1, .ref (zA (zXE D cy K V ka E) 8 0)), (2, .ref (zA (zME D cy E) 6 0)), (3, .int x3)] [] Mx Nx Mm Nm := by
  obtain ⟨b, d, hb, hd, he, hR2⟩ := hS Mx Nx Mm Nm hR (xs (ix (x3 + 1))) (xs (ix (x3 + 2)))
  refine gl_aload_n C dL_law_1020 1 1 rfl rfl ?_
  refine gl_aload_n C dL_law_1021 0 0 rfl rfl ?_
  refine gl_iload_n C dL_law_1022 3 3 rfl rfl ?_
  refine gl_iconst (v := 1) C dL_law_1023 (by decide) ?_
  refine gl_iadd C dL_law_1024 ?_
  refine gl_sld C h1 dL_law_1025 ?_
  refine gl_aload_n C dL_law_1026 0 0 rfl rfl ?_
  refine gl_iload_n C dL_law_1027 3 3 rfl rfl ?_
  refine gl_iconst (v := 2) C dL_law_1028 (by decide) ?_
  refine gl_iadd C dL_law_1029 ?_
  refine gl_sld C h2 dL_law_1030 ?_
  refine gl_callX (Mx' := b.2) (Nx' := Nx) (rest := []) (st2 := [.int b.1]) C (mX4_spring (eL E) okX Mx Nx (xs (ix (x3 + 1))) (xs (ix (x3 + 2))) b hb) lk_L_112 rfl (by decide) rfl rfl (Nat.le_of_ble_eq_true rfl) dL_law_1031 rfl ?_
  refine gl_aload_n C dL_law_1034 2 2 rfl rfl ?_
  refine gl_aload_n C dL_law_1035 0 0 rfl rfl ?_
  refine gl_iload_n C dL_law_1036 3 3 rfl rfl ?_
  refine gl_iconst (v := 1) C dL_law_1037 (by decide) ?_
  refine gl_iadd C dL_law_1038 ?_
  refine gl_sld C h1 dL_law_1039 ?_
  refine gl_aload_n C dL_law_1040 0 0 rfl rfl ?_
  refine gl_iload_n C dL_law_1041 3 3 rfl rfl ?_
  refine gl_iconst (v := 2) C dL_law_1042 (by decide) ?_
  refine gl_iadd C dL_law_1043 ?_
  refine gl_sld C h2 dL_law_1044 ?_
  refine gl_callM (Mm' := d.2) (Nm' := Nm) (rest := [.int b.1]) (st2 := [.int d.1, .int b.1]) C (mX5_spring (eL E) okM Mm Nm (xs (ix (x3 + 1))) (xs (ix (x3 + 2))) d hd) lk_L_115 rfl (by decide) rfl rfl (Nat.le_of_ble_eq_true rfl) dL_law_1045 rfl ?_
  refine gl_eq (tgt := 1499) C dL_law_1048 (by decide) he ?_
  exact kk _ _ _ _ hR2
theorem lc_kind (C : OkL D cy K V ka E bs L xs) {Rel : Mi → Ml → Mi → Ml → Prop} (hS : SimT_kind Rel) (hR : Rel Mx Nx Mm Nm) {x3 : Int32} (h1 : inb (x3 + 1) L) (h2 : inb (x3 + 2) L) (h3 : inb (x3 + 3) L) (h4 : inb (x3 + 4) L) (h5 : inb (x3 + 5) L) (kk : ∀ (Mx : Mi) (Nx : Ml) (Mm : Mi) (Nm : Ml), Rel Mx Nx Mm Nm → GL D cy K V ka E Q 1499 [(0, .ref bs), (1, .ref (zA (zXE D cy K V ka E) 8 0)), (2, .ref (zA (zME D cy E) 6 0)), (3, .int x3)] [] Mx Nx Mm Nm) : GL D cy K V ka E Q 1053 [(0, .ref bs), (1, .ref (zA (zXE D cy K V ka E) 8 0)), (2, .ref (zA (zME D cy E) 6 0)), (3, .int x3)] [] Mx Nx Mm Nm := by
  obtain ⟨b, d, hb, hd, he, hR2⟩ := hS Mx Nx Mm Nm hR (xs (ix (x3 + 1))) (xs (ix (x3 + 2)))
  refine gl_aload_n C dL_law_1053 1 1 rfl rfl ?_
  refine gl_aload_n C dL_law_1054 0 0 rfl rfl ?_
  refine gl_iload_n C dL_law_1055 3 3 rfl rfl ?_
  refine gl_iconst (v := 1) C dL_law_1056 (by decide) ?_
  refine gl_iadd C dL_law_1057 ?_
  refine gl_sld C h1 dL_law_1058 ?_
  refine gl_aload_n C dL_law_1059 0 0 rfl rfl ?_
  refine gl_iload_n C dL_law_1060 3 3 rfl rfl ?_
  refine gl_iconst (v := 2) C dL_law_1061 (by decide) ?_
  refine gl_iadd C dL_law_1062 ?_
  refine gl_sld C h2 dL_law_1063 ?_
  refine gl_callX (Mx' := b.2) (Nx' := Nx) (rest := []) (st2 := [.int b.1]) C (mX4_kind (eL E) okX Mx Nx (xs (ix (x3 + 1))) (xs (ix (x3 + 2))) b hb) lk_L_116 rfl (by decide) rfl rfl (Nat.le_of_ble_eq_true rfl) dL_law_1064 rfl ?_
  refine gl_aload_n C dL_law_1067 2 2 rfl rfl ?_
  refine gl_aload_n C dL_law_1068 0 0 rfl rfl ?_
  refine gl_iload_n C dL_law_1069 3 3 rfl rfl ?_
  refine gl_iconst (v := 1) C dL_law_1070 (by decide) ?_
  refine gl_iadd C dL_law_1071 ?_
  refine gl_sld C h1 dL_law_1072 ?_
  refine gl_aload_n C dL_law_1073 0 0 rfl rfl ?_
  refine gl_iload_n C dL_law_1074 3 3 rfl rfl ?_
  refine gl_iconst (v := 2) C dL_law_1075 (by decide) ?_
  refine gl_iadd C dL_law_1076 ?_
  refine gl_sld C h2 dL_law_1077 ?_
  refine gl_callM (Mm' := d.2) (Nm' := Nm) (rest := [.int b.1]) (st2 := [.int d.1, .int b.1]) C (mX5_kind (eL E) okM Mm Nm (xs (ix (x3 + 1))) (xs (ix (x3 + 2))) d hd) lk_L_119 rfl (by decide) rfl rfl (Nat.le_of_ble_eq_true rfl) dL_law_1078 rfl ?_
  refine gl_eq (tgt := 1499) C dL_law_1081 (by decide) he ?_
  exact kk _ _ _ _ hR2
theorem lc_feed (C : OkL D cy K V ka E bs L xs) {Rel : Mi → Ml → Mi → Ml → Prop} (hS : SimT_feed Rel) (hR : Rel Mx Nx Mm Nm) {x3 : Int32} (h1 : inb (x3 + 1) L) (h2 : inb (x3 + 2) L) (h3 : inb (x3 + 3) L) (h4 : inb (x3 + 4) L) (h5 : inb (x3 + 5) L) (kk : ∀ (Mx : Mi) (Nx : Ml) (Mm : Mi) (Nm : Ml), Rel Mx Nx Mm Nm → GL D cy K V ka E Q 1499 [(0, .ref bs), (1, .ref (zA (zXE D cy K V ka E) 8 0)), (2, .ref (zA (zME D cy E) 6 0)), (3, .int x3)] [] Mx Nx Mm Nm) : GL D cy K V ka E Q 1086 [(0, .ref bs), (1, .ref (zA (zXE D cy K V ka E) 8 0)), (2, .ref (zA (zME D cy E) 6 0)), (3, .int x3)] [] Mx Nx Mm Nm := by
  obtain ⟨b, d, hb, hd, he, hR2⟩ := hS Mx Nx Mm Nm hR (xs (ix (x3 + 1))) (xs (ix (x3 + 2)))
  refine gl_aload_n C dL_law_1086 1 1 rfl rfl ?_
  refine gl_aload_n C dL_law_1087 0 0 rfl rfl ?_
  refine gl_iload_n C dL_law_1088 3 3 rfl rfl ?_
  refine gl_iconst (v := 1) C dL_law_1089 (by decide) ?_
  refine gl_iadd C dL_law_1090 ?_
  refine gl_sld C h1 dL_law_1091 ?_
  refine gl_aload_n C dL_law_1092 0 0 rfl rfl ?_
  refine gl_iload_n C dL_law_1093 3 3 rfl rfl ?_
  refine gl_iconst (v := 2) C dL_law_1094 (by decide) ?_
  refine gl_iadd C dL_law_1095 ?_
  refine gl_sld C h2 dL_law_1096 ?_
  refine gl_callX (Mx' := b.2) (Nx' := Nx) (rest := []) (st2 := [.int b.1]) C (mX4_feed (eL E) okX Mx Nx (xs (ix (x3 + 1))) (xs (ix (x3 + 2))) b hb) lk_L_120 rfl (by decide) rfl rfl (Nat.le_of_ble_eq_true rfl) dL_law_1097 rfl ?_
  refine gl_aload_n C dL_law_1100 2 2 rfl rfl ?_
  refine gl_aload_n C dL_law_1101 0 0 rfl rfl ?_
  refine gl_iload_n C dL_law_1102 3 3 rfl rfl ?_
  refine gl_iconst (v := 1) C dL_law_1103 (by decide) ?_
  refine gl_iadd C dL_law_1104 ?_
  refine gl_sld C h1 dL_law_1105 ?_
  refine gl_aload_n C dL_law_1106 0 0 rfl rfl ?_
  refine gl_iload_n C dL_law_1107 3 3 rfl rfl ?_
  refine gl_iconst (v := 2) C dL_law_1108 (by decide) ?_
  refine gl_iadd C dL_law_1109 ?_
  refine gl_sld C h2 dL_law_1110 ?_
  refine gl_callM (Mm' := d.2) (Nm' := Nm) (rest := [.int b.1]) (st2 := [.int d.1, .int b.1]) C (mX5_feed (eL E) okM Mm Nm (xs (ix (x3 + 1))) (xs (ix (x3 + 2))) d hd) lk_L_123 rfl (by decide) rfl rfl (Nat.le_of_ble_eq_true rfl) dL_law_1111 rfl ?_
  refine gl_eq (tgt := 1499) C dL_law_1114 (by decide) he ?_
  exact kk _ _ _ _ hR2
theorem lc_wipe (C : OkL D cy K V ka E bs L xs) {Rel : Mi → Ml → Mi → Ml → Prop} (hS : SimT_wipe Rel) (hR : Rel Mx Nx Mm Nm) {x3 : Int32} (h1 : inb (x3 + 1) L) (h2 : inb (x3 + 2) L) (h3 : inb (x3 + 3) L) (h4 : inb (x3 + 4) L) (h5 : inb (x3 + 5) L) (kk : ∀ (Mx : Mi) (Nx : Ml) (Mm : Mi) (Nm : Ml), Rel Mx Nx Mm Nm → GL D cy K V ka E Q 1499 [(0, .ref bs), (1, .ref (zA (zXE D cy K V ka E) 8 0)), (2, .ref (zA (zME D cy E) 6 0)), (3, .int x3)] [] Mx Nx Mm Nm) : GL D cy K V ka E Q 1119 [(0, .ref bs), (1, .ref (zA (zXE D cy K V ka E) 8 0)), (2, .ref (zA (zME D cy E) 6 0)), (3, .int x3)] [] Mx Nx Mm Nm := by
  obtain ⟨b, d, hb, hd, he, hR2⟩ := hS Mx Nx Mm Nm hR 
  refine gl_aload_n C dL_law_1119 1 1 rfl rfl ?_
  refine gl_callX (Mx' := b.2) (Nx' := Nx) (rest := []) (st2 := [.int b.1]) C (mX4_wipe (eL E) okX Mx Nx b hb) lk_L_124 rfl (by decide) rfl rfl (Nat.le_of_ble_eq_true rfl) dL_law_1120 rfl ?_
  refine gl_aload_n C dL_law_1123 2 2 rfl rfl ?_
  refine gl_callM (Mm' := d.2) (Nm' := Nm) (rest := [.int b.1]) (st2 := [.int d.1, .int b.1]) C (mX5_wipe (eL E) okM Mm Nm d hd) lk_L_128 rfl (by decide) rfl rfl (Nat.le_of_ble_eq_true rfl) dL_law_1124 rfl ?_
  refine gl_eq (tgt := 1499) C dL_law_1127 (by decide) he ?_
  exact kk _ _ _ _ hR2
theorem lc_island (C : OkL D cy K V ka E bs L xs) {Rel : Mi → Ml → Mi → Ml → Prop} (hS : SimT_island Rel) (hR : Rel Mx Nx Mm Nm) {x3 : Int32} (h1 : inb (x3 + 1) L) (h2 : inb (x3 + 2) L) (h3 : inb (x3 + 3) L) (h4 : inb (x3 + 4) L) (h5 : inb (x3 + 5) L) (kk : ∀ (Mx : Mi) (Nx : Ml) (Mm : Mi) (Nm : Ml), Rel Mx Nx Mm Nm → GL D cy K V ka E Q 1499 [(0, .ref bs), (1, .ref (zA (zXE D cy K V ka E) 8 0)), (2, .ref (zA (zME D cy E) 6 0)), (3, .int x3)] [] Mx Nx Mm Nm) : GL D cy K V ka E Q 1132 [(0, .ref bs), (1, .ref (zA (zXE D cy K V ka E) 8 0)), (2, .ref (zA (zME D cy E) 6 0)), (3, .int x3)] [] Mx Nx Mm Nm := by
  obtain ⟨b, d, hb, hd, he, hR2⟩ := hS Mx Nx Mm Nm hR 
  refine gl_aload_n C dL_law_1132 1 1 rfl rfl ?_
  refine gl_callX (Mx' := b.2) (Nx' := Nx) (rest := []) (st2 := [.int b.1]) C (mX4_island (eL E) okX Mx Nx b hb) lk_L_129 rfl (by decide) rfl rfl (Nat.le_of_ble_eq_true rfl) dL_law_1133 rfl ?_
  refine gl_aload_n C dL_law_1136 2 2 rfl rfl ?_
  refine gl_callM (Mm' := d.2) (Nm' := Nm) (rest := [.int b.1]) (st2 := [.int d.1, .int b.1]) C (mX5_island (eL E) okM Mm Nm d hd) lk_L_132 rfl (by decide) rfl rfl (Nat.le_of_ble_eq_true rfl) dL_law_1137 rfl ?_
  refine gl_eq (tgt := 1499) C dL_law_1140 (by decide) he ?_
  exact kk _ _ _ _ hR2
theorem lc_sheet (C : OkL D cy K V ka E bs L xs) {Rel : Mi → Ml → Mi → Ml → Prop} (hS : SimT_sheet Rel) (hR : Rel Mx Nx Mm Nm) {x3 : Int32} (h1 : inb (x3 + 1) L) (h2 : inb (x3 + 2) L) (h3 : inb (x3 + 3) L) (h4 : inb (x3 + 4) L) (h5 : inb (x3 + 5) L) (kk : ∀ (Mx : Mi) (Nx : Ml) (Mm : Mi) (Nm : Ml), Rel Mx Nx Mm Nm → GL D cy K V ka E Q 1499 [(0, .ref bs), (1, .ref (zA (zXE D cy K V ka E) 8 0)), (2, .ref (zA (zME D cy E) 6 0)), (3, .int x3)] [] Mx Nx Mm Nm) : GL D cy K V ka E Q 1145 [(0, .ref bs), (1, .ref (zA (zXE D cy K V ka E) 8 0)), (2, .ref (zA (zME D cy E) 6 0)), (3, .int x3)] [] Mx Nx Mm Nm := by
  obtain ⟨b, d, hb, hd, he, hR2⟩ := hS Mx Nx Mm Nm hR (xs (ix (x3 + 1))) (xs (ix (x3 + 2))) (xs (ix (x3 + 3)))
  refine gl_aload_n C dL_law_1145 1 1 rfl rfl ?_
  refine gl_aload_n C dL_law_1146 0 0 rfl rfl ?_
  refine gl_iload_n C dL_law_1147 3 3 rfl rfl ?_
  refine gl_iconst (v := 1) C dL_law_1148 (by decide) ?_
  refine gl_iadd C dL_law_1149 ?_
  refine gl_sld C h1 dL_law_1150 ?_
  refine gl_aload_n C dL_law_1151 0 0 rfl rfl ?_
  refine gl_iload_n C dL_law_1152 3 3 rfl rfl ?_
  refine gl_iconst (v := 2) C dL_law_1153 (by decide) ?_
  refine gl_iadd C dL_law_1154 ?_
  refine gl_sld C h2 dL_law_1155 ?_
  refine gl_aload_n C dL_law_1156 0 0 rfl rfl ?_
  refine gl_iload_n C dL_law_1157 3 3 rfl rfl ?_
  refine gl_iconst (v := 3) C dL_law_1158 (by decide) ?_
  refine gl_iadd C dL_law_1159 ?_
  refine gl_sld C h3 dL_law_1160 ?_
  refine gl_callX (Mx' := b.2.1) (Nx' := b.2.2) (rest := []) (st2 := [.int b.1]) C (mX4_sheet (eL E) okX Mx Nx (xs (ix (x3 + 1))) (xs (ix (x3 + 2))) (xs (ix (x3 + 3))) b hb) lk_L_133 rfl (by decide) rfl rfl (Nat.le_of_ble_eq_true rfl) dL_law_1161 rfl ?_
  refine gl_aload_n C dL_law_1164 2 2 rfl rfl ?_
  refine gl_aload_n C dL_law_1165 0 0 rfl rfl ?_
  refine gl_iload_n C dL_law_1166 3 3 rfl rfl ?_
  refine gl_iconst (v := 1) C dL_law_1167 (by decide) ?_
  refine gl_iadd C dL_law_1168 ?_
  refine gl_sld C h1 dL_law_1169 ?_
  refine gl_aload_n C dL_law_1170 0 0 rfl rfl ?_
  refine gl_iload_n C dL_law_1171 3 3 rfl rfl ?_
  refine gl_iconst (v := 2) C dL_law_1172 (by decide) ?_
  refine gl_iadd C dL_law_1173 ?_
  refine gl_sld C h2 dL_law_1174 ?_
  refine gl_aload_n C dL_law_1175 0 0 rfl rfl ?_
  refine gl_iload_n C dL_law_1176 3 3 rfl rfl ?_
  refine gl_iconst (v := 3) C dL_law_1177 (by decide) ?_
  refine gl_iadd C dL_law_1178 ?_
  refine gl_sld C h3 dL_law_1179 ?_
  refine gl_callM (Mm' := d.2.1) (Nm' := d.2.2) (rest := [.int b.1]) (st2 := [.int d.1, .int b.1]) C (mX5_sheet (eL E) okM Mm Nm (xs (ix (x3 + 1))) (xs (ix (x3 + 2))) (xs (ix (x3 + 3))) d hd) lk_L_136 rfl (by decide) rfl rfl (Nat.le_of_ble_eq_true rfl) dL_law_1180 rfl ?_
  refine gl_eq (tgt := 1499) C dL_law_1183 (by decide) he ?_
  exact kk _ _ _ _ hR2
theorem lc_write (C : OkL D cy K V ka E bs L xs) {Rel : Mi → Ml → Mi → Ml → Prop} (hS : SimT_write Rel) (hR : Rel Mx Nx Mm Nm) {x3 : Int32} (h1 : inb (x3 + 1) L) (h2 : inb (x3 + 2) L) (h3 : inb (x3 + 3) L) (h4 : inb (x3 + 4) L) (h5 : inb (x3 + 5) L) (kk : ∀ (Mx : Mi) (Nx : Ml) (Mm : Mi) (Nm : Ml), Rel Mx Nx Mm Nm → GL D cy K V ka E Q 1499 [(0, .ref bs), (1, .ref (zA (zXE D cy K V ka E) 8 0)), (2, .ref (zA (zME D cy E) 6 0)), (3, .int x3)] [] Mx Nx Mm Nm) : GL D cy K V ka E Q 1188 [(0, .ref bs), (1, .ref (zA (zXE D cy K V ka E) 8 0)), (2, .ref (zA (zME D cy E) 6 0)), (3, .int x3)] [] Mx Nx Mm Nm := by
  obtain ⟨b, d, hb, hd, he, hR2⟩ := hS Mx Nx Mm Nm hR (xs (ix (x3 + 1))) (xs (ix (x3 + 2))) (((Int32.toInt64 (xs (ix (x3 + 3)))) <<< (Int32.toInt64 32 &&& 63)) ||| ((Int32.toInt64 (xs (ix (x3 + 4)))) &&& 4294967295))
  refine gl_aload_n C dL_law_1188 1 1 rfl rfl ?_
  refine gl_aload_n C dL_law_1189 0 0 rfl rfl ?_
  refine gl_iload_n C dL_law_1190 3 3 rfl rfl ?_
  refine gl_iconst (v := 1) C dL_law_1191 (by decide) ?_
  refine gl_iadd C dL_law_1192 ?_
  refine gl_sld C h1 dL_law_1193 ?_
  refine gl_aload_n C dL_law_1194 0 0 rfl rfl ?_
  refine gl_iload_n C dL_law_1195 3 3 rfl rfl ?_
  refine gl_iconst (v := 2) C dL_law_1196 (by decide) ?_
  refine gl_iadd C dL_law_1197 ?_
  refine gl_sld C h2 dL_law_1198 ?_
  refine gl_aload_n C dL_law_1199 0 0 rfl rfl ?_
  refine gl_iload_n C dL_law_1200 3 3 rfl rfl ?_
  refine gl_iconst (v := 3) C dL_law_1201 (by decide) ?_
  refine gl_iadd C dL_law_1202 ?_
  refine gl_sld C h3 dL_law_1203 ?_
  refine gl_i2l C dL_law_1204 ?_
  refine gl_bipush (v := 32) C dL_law_1205 (by decide) ?_
  refine gl_lshl C dL_law_1207 rfl ?_
  refine gl_aload_n C dL_law_1208 0 0 rfl rfl ?_
  refine gl_iload_n C dL_law_1209 3 3 rfl rfl ?_
  refine gl_iconst (v := 4) C dL_law_1210 (by decide) ?_
  refine gl_iadd C dL_law_1211 ?_
  refine gl_sld C h4 dL_law_1212 ?_
  refine gl_i2l C dL_law_1213 ?_
  refine gl_ldc2 (v := 4294967295) C dL_law_1214 wd_1300 ?_
  refine gl_land C dL_law_1217 ?_
  refine gl_lor C dL_law_1218 ?_
  refine gl_callX (Mx' := b.2.1) (Nx' := b.2.2) (rest := []) (st2 := [.long b.1]) C (mX4_write (eL E) okX Mx Nx (xs (ix (x3 + 1))) (xs (ix (x3 + 2))) (((Int32.toInt64 (xs (ix (x3 + 3)))) <<< (Int32.toInt64 32 &&& 63)) ||| ((Int32.toInt64 (xs (ix (x3 + 4)))) &&& 4294967295)) b hb) lk_L_139 rfl (by decide) rfl rfl (Nat.le_of_ble_eq_true rfl) dL_law_1219 rfl ?_
  refine gl_aload_n C dL_law_1222 2 2 rfl rfl ?_
  refine gl_aload_n C dL_law_1223 0 0 rfl rfl ?_
  refine gl_iload_n C dL_law_1224 3 3 rfl rfl ?_
  refine gl_iconst (v := 1) C dL_law_1225 (by decide) ?_
  refine gl_iadd C dL_law_1226 ?_
  refine gl_sld C h1 dL_law_1227 ?_
  refine gl_aload_n C dL_law_1228 0 0 rfl rfl ?_
  refine gl_iload_n C dL_law_1229 3 3 rfl rfl ?_
  refine gl_iconst (v := 2) C dL_law_1230 (by decide) ?_
  refine gl_iadd C dL_law_1231 ?_
  refine gl_sld C h2 dL_law_1232 ?_
  refine gl_aload_n C dL_law_1233 0 0 rfl rfl ?_
  refine gl_iload_n C dL_law_1234 3 3 rfl rfl ?_
  refine gl_iconst (v := 3) C dL_law_1235 (by decide) ?_
  refine gl_iadd C dL_law_1236 ?_
  refine gl_sld C h3 dL_law_1237 ?_
  refine gl_i2l C dL_law_1238 ?_
  refine gl_bipush (v := 32) C dL_law_1239 (by decide) ?_
  refine gl_lshl C dL_law_1241 rfl ?_
  refine gl_aload_n C dL_law_1242 0 0 rfl rfl ?_
  refine gl_iload_n C dL_law_1243 3 3 rfl rfl ?_
  refine gl_iconst (v := 4) C dL_law_1244 (by decide) ?_
  refine gl_iadd C dL_law_1245 ?_
  refine gl_sld C h4 dL_law_1246 ?_
  refine gl_i2l C dL_law_1247 ?_
  refine gl_ldc2 (v := 4294967295) C dL_law_1248 wd_1300 ?_
  refine gl_land C dL_law_1251 ?_
  refine gl_lor C dL_law_1252 ?_
  refine gl_callM (Mm' := d.2.1) (Nm' := d.2.2) (rest := [.long b.1]) (st2 := [.long d.1, .long b.1]) C (mX5_write (eL E) okM Mm Nm (xs (ix (x3 + 1))) (xs (ix (x3 + 2))) (((Int32.toInt64 (xs (ix (x3 + 3)))) <<< (Int32.toInt64 32 &&& 63)) ||| ((Int32.toInt64 (xs (ix (x3 + 4)))) &&& 4294967295)) d hd) lk_L_143 rfl (by decide) rfl rfl (Nat.le_of_ble_eq_true rfl) dL_law_1253 rfl ?_
  refine gl_leq (tgt := 1499) C dL_law_1256 dL_law_1257 (by decide) he ?_
  exact kk _ _ _ _ hR2
theorem lc_copy (C : OkL D cy K V ka E bs L xs) {Rel : Mi → Ml → Mi → Ml → Prop} (hS : SimT_copy Rel) (hR : Rel Mx Nx Mm Nm) {x3 : Int32} (h1 : inb (x3 + 1) L) (h2 : inb (x3 + 2) L) (h3 : inb (x3 + 3) L) (h4 : inb (x3 + 4) L) (h5 : inb (x3 + 5) L) (kk : ∀ (Mx : Mi) (Nx : Ml) (Mm : Mi) (Nm : Ml), Rel Mx Nx Mm Nm → GL D cy K V ka E Q 1499 [(0, .ref bs), (1, .ref (zA (zXE D cy K V ka E) 8 0)), (2, .ref (zA (zME D cy E) 6 0)), (3, .int x3)] [] Mx Nx Mm Nm) : GL D cy K V ka E Q 1262 [(0, .ref bs), (1, .ref (zA (zXE D cy K V ka E) 8 0)), (2, .ref (zA (zME D cy E) 6 0)), (3, .int x3)] [] Mx Nx Mm Nm := by
  obtain ⟨b, d, hb, hd, he, hR2⟩ := hS Mx Nx Mm Nm hR (xs (ix (x3 + 1))) (xs (ix (x3 + 2))) (xs (ix (x3 + 3))) (xs (ix (x3 + 4))) (xs (ix (x3 + 5)))
  refine gl_aload_n C dL_law_1262 1 1 rfl rfl ?_
  refine gl_aload_n C dL_law_1263 0 0 rfl rfl ?_
  refine gl_iload_n C dL_law_1264 3 3 rfl rfl ?_
  refine gl_iconst (v := 1) C dL_law_1265 (by decide) ?_
  refine gl_iadd C dL_law_1266 ?_
  refine gl_sld C h1 dL_law_1267 ?_
  refine gl_aload_n C dL_law_1268 0 0 rfl rfl ?_
  refine gl_iload_n C dL_law_1269 3 3 rfl rfl ?_
  refine gl_iconst (v := 2) C dL_law_1270 (by decide) ?_
  refine gl_iadd C dL_law_1271 ?_
  refine gl_sld C h2 dL_law_1272 ?_
  refine gl_aload_n C dL_law_1273 0 0 rfl rfl ?_
  refine gl_iload_n C dL_law_1274 3 3 rfl rfl ?_
  refine gl_iconst (v := 3) C dL_law_1275 (by decide) ?_
  refine gl_iadd C dL_law_1276 ?_
  refine gl_sld C h3 dL_law_1277 ?_
  refine gl_aload_n C dL_law_1278 0 0 rfl rfl ?_
  refine gl_iload_n C dL_law_1279 3 3 rfl rfl ?_
  refine gl_iconst (v := 4) C dL_law_1280 (by decide) ?_
  refine gl_iadd C dL_law_1281 ?_
  refine gl_sld C h4 dL_law_1282 ?_
  refine gl_aload_n C dL_law_1283 0 0 rfl rfl ?_
  refine gl_iload_n C dL_law_1284 3 3 rfl rfl ?_
  refine gl_iconst (v := 5) C dL_law_1285 (by decide) ?_
  refine gl_iadd C dL_law_1286 ?_
  refine gl_sld C h5 dL_law_1287 ?_
  refine gl_callX (Mx' := b.2.1) (Nx' := b.2.2) (rest := []) (st2 := [.int b.1]) C (mX4_copy (eL E) okX Mx Nx (xs (ix (x3 + 1))) (xs (ix (x3 + 2))) (xs (ix (x3 + 3))) (xs (ix (x3 + 4))) (xs (ix (x3 + 5))) b hb) lk_L_144 rfl (by decide) rfl rfl (Nat.le_of_ble_eq_true rfl) dL_law_1288 rfl ?_
  refine gl_aload_n C dL_law_1291 2 2 rfl rfl ?_
  refine gl_aload_n C dL_law_1292 0 0 rfl rfl ?_
  refine gl_iload_n C dL_law_1293 3 3 rfl rfl ?_
  refine gl_iconst (v := 1) C dL_law_1294 (by decide) ?_
  refine gl_iadd C dL_law_1295 ?_
  refine gl_sld C h1 dL_law_1296 ?_
  refine gl_aload_n C dL_law_1297 0 0 rfl rfl ?_
  refine gl_iload_n C dL_law_1298 3 3 rfl rfl ?_
  refine gl_iconst (v := 2) C dL_law_1299 (by decide) ?_
  refine gl_iadd C dL_law_1300 ?_
  refine gl_sld C h2 dL_law_1301 ?_
  refine gl_aload_n C dL_law_1302 0 0 rfl rfl ?_
  refine gl_iload_n C dL_law_1303 3 3 rfl rfl ?_
  refine gl_iconst (v := 3) C dL_law_1304 (by decide) ?_
  refine gl_iadd C dL_law_1305 ?_
  refine gl_sld C h3 dL_law_1306 ?_
  refine gl_aload_n C dL_law_1307 0 0 rfl rfl ?_
  refine gl_iload_n C dL_law_1308 3 3 rfl rfl ?_
  refine gl_iconst (v := 4) C dL_law_1309 (by decide) ?_
  refine gl_iadd C dL_law_1310 ?_
  refine gl_sld C h4 dL_law_1311 ?_
  refine gl_aload_n C dL_law_1312 0 0 rfl rfl ?_
  refine gl_iload_n C dL_law_1313 3 3 rfl rfl ?_
  refine gl_iconst (v := 5) C dL_law_1314 (by decide) ?_
  refine gl_iadd C dL_law_1315 ?_
  refine gl_sld C h5 dL_law_1316 ?_
  refine gl_callM (Mm' := d.2.1) (Nm' := d.2.2) (rest := [.int b.1]) (st2 := [.int d.1, .int b.1]) C (mX5_copy (eL E) okM Mm Nm (xs (ix (x3 + 1))) (xs (ix (x3 + 2))) (xs (ix (x3 + 3))) (xs (ix (x3 + 4))) (xs (ix (x3 + 5))) d hd) lk_L_148 rfl (by decide) rfl rfl (Nat.le_of_ble_eq_true rfl) dL_law_1317 rfl ?_
  refine gl_eq (tgt := 1499) C dL_law_1320 (by decide) he ?_
  exact kk _ _ _ _ hR2
theorem lc_lays (C : OkL D cy K V ka E bs L xs) {Rel : Mi → Ml → Mi → Ml → Prop} (hS : SimT_lays Rel) (hR : Rel Mx Nx Mm Nm) {x3 : Int32} (h1 : inb (x3 + 1) L) (h2 : inb (x3 + 2) L) (h3 : inb (x3 + 3) L) (h4 : inb (x3 + 4) L) (h5 : inb (x3 + 5) L) (kk : ∀ (Mx : Mi) (Nx : Ml) (Mm : Mi) (Nm : Ml), Rel Mx Nx Mm Nm → GL D cy K V ka E Q 1499 [(0, .ref bs), (1, .ref (zA (zXE D cy K V ka E) 8 0)), (2, .ref (zA (zME D cy E) 6 0)), (3, .int x3)] [] Mx Nx Mm Nm) : GL D cy K V ka E Q 1325 [(0, .ref bs), (1, .ref (zA (zXE D cy K V ka E) 8 0)), (2, .ref (zA (zME D cy E) 6 0)), (3, .int x3)] [] Mx Nx Mm Nm := by
  obtain ⟨b, d, hb, hd, he, hR2⟩ := hS Mx Nx Mm Nm hR (xs (ix (x3 + 1)))
  refine gl_aload_n C dL_law_1325 1 1 rfl rfl ?_
  refine gl_aload_n C dL_law_1326 0 0 rfl rfl ?_
  refine gl_iload_n C dL_law_1327 3 3 rfl rfl ?_
  refine gl_iconst (v := 1) C dL_law_1328 (by decide) ?_
  refine gl_iadd C dL_law_1329 ?_
  refine gl_sld C h1 dL_law_1330 ?_
  refine gl_callX (Mx' := b.2) (Nx' := Nx) (rest := []) (st2 := [.int b.1]) C (mX4_lays (eL E) okX Mx Nx (xs (ix (x3 + 1))) b hb) lk_L_149 rfl (by decide) rfl rfl (Nat.le_of_ble_eq_true rfl) dL_law_1331 rfl ?_
  refine gl_aload_n C dL_law_1334 2 2 rfl rfl ?_
  refine gl_aload_n C dL_law_1335 0 0 rfl rfl ?_
  refine gl_iload_n C dL_law_1336 3 3 rfl rfl ?_
  refine gl_iconst (v := 1) C dL_law_1337 (by decide) ?_
  refine gl_iadd C dL_law_1338 ?_
  refine gl_sld C h1 dL_law_1339 ?_
  refine gl_callM (Mm' := d.2) (Nm' := Nm) (rest := [.int b.1]) (st2 := [.int d.1, .int b.1]) C (mX5_lays (eL E) okM Mm Nm (xs (ix (x3 + 1))) d hd) lk_L_152 rfl (by decide) rfl rfl (Nat.le_of_ble_eq_true rfl) dL_law_1340 rfl ?_
  refine gl_eq (tgt := 1499) C dL_law_1343 (by decide) he ?_
  exact kk _ _ _ _ hR2
theorem lc_book (C : OkL D cy K V ka E bs L xs) {Rel : Mi → Ml → Mi → Ml → Prop} (hS : SimT_book Rel) (hR : Rel Mx Nx Mm Nm) {x3 : Int32} (h1 : inb (x3 + 1) L) (h2 : inb (x3 + 2) L) (h3 : inb (x3 + 3) L) (h4 : inb (x3 + 4) L) (h5 : inb (x3 + 5) L) (kk : ∀ (Mx : Mi) (Nx : Ml) (Mm : Mi) (Nm : Ml), Rel Mx Nx Mm Nm → GL D cy K V ka E Q 1499 [(0, .ref bs), (1, .ref (zA (zXE D cy K V ka E) 8 0)), (2, .ref (zA (zME D cy E) 6 0)), (3, .int x3)] [] Mx Nx Mm Nm) : GL D cy K V ka E Q 1348 [(0, .ref bs), (1, .ref (zA (zXE D cy K V ka E) 8 0)), (2, .ref (zA (zME D cy E) 6 0)), (3, .int x3)] [] Mx Nx Mm Nm := by
  obtain ⟨b, d, hb, hd, he, hR2⟩ := hS Mx Nx Mm Nm hR (xs (ix (x3 + 1))) (xs (ix (x3 + 2)))
  refine gl_aload_n C dL_law_1348 1 1 rfl rfl ?_
  refine gl_aload_n C dL_law_1349 0 0 rfl rfl ?_
  refine gl_iload_n C dL_law_1350 3 3 rfl rfl ?_
  refine gl_iconst (v := 1) C dL_law_1351 (by decide) ?_
  refine gl_iadd C dL_law_1352 ?_
  refine gl_sld C h1 dL_law_1353 ?_
  refine gl_aload_n C dL_law_1354 0 0 rfl rfl ?_
  refine gl_iload_n C dL_law_1355 3 3 rfl rfl ?_
  refine gl_iconst (v := 2) C dL_law_1356 (by decide) ?_
  refine gl_iadd C dL_law_1357 ?_
  refine gl_sld C h2 dL_law_1358 ?_
  refine gl_callX (Mx' := b.2.1) (Nx' := b.2.2) (rest := []) (st2 := [.int b.1]) C (mX4_book (eL E) okX Mx Nx (xs (ix (x3 + 1))) (xs (ix (x3 + 2))) b hb) lk_L_153 rfl (by decide) rfl rfl (Nat.le_of_ble_eq_true rfl) dL_law_1359 rfl ?_
  refine gl_aload_n C dL_law_1362 2 2 rfl rfl ?_
  refine gl_aload_n C dL_law_1363 0 0 rfl rfl ?_
  refine gl_iload_n C dL_law_1364 3 3 rfl rfl ?_
  refine gl_iconst (v := 1) C dL_law_1365 (by decide) ?_
  refine gl_iadd C dL_law_1366 ?_
  refine gl_sld C h1 dL_law_1367 ?_
  refine gl_aload_n C dL_law_1368 0 0 rfl rfl ?_
  refine gl_iload_n C dL_law_1369 3 3 rfl rfl ?_
  refine gl_iconst (v := 2) C dL_law_1370 (by decide) ?_
  refine gl_iadd C dL_law_1371 ?_
  refine gl_sld C h2 dL_law_1372 ?_
  refine gl_callM (Mm' := d.2.1) (Nm' := d.2.2) (rest := [.int b.1]) (st2 := [.int d.1, .int b.1]) C (mX5_book (eL E) okM Mm Nm (xs (ix (x3 + 1))) (xs (ix (x3 + 2))) d hd) lk_L_156 rfl (by decide) rfl rfl (Nat.le_of_ble_eq_true rfl) dL_law_1373 rfl ?_
  refine gl_eq (tgt := 1499) C dL_law_1376 (by decide) he ?_
  exact kk _ _ _ _ hR2
theorem lc_read (C : OkL D cy K V ka E bs L xs) {Rel : Mi → Ml → Mi → Ml → Prop} (hS : SimT_read Rel) (hR : Rel Mx Nx Mm Nm) {x3 : Int32} (h1 : inb (x3 + 1) L) (h2 : inb (x3 + 2) L) (h3 : inb (x3 + 3) L) (h4 : inb (x3 + 4) L) (h5 : inb (x3 + 5) L) (kk : ∀ (Mx : Mi) (Nx : Ml) (Mm : Mi) (Nm : Ml), Rel Mx Nx Mm Nm → GL D cy K V ka E Q 1499 [(0, .ref bs), (1, .ref (zA (zXE D cy K V ka E) 8 0)), (2, .ref (zA (zME D cy E) 6 0)), (3, .int x3)] [] Mx Nx Mm Nm) : GL D cy K V ka E Q 1381 [(0, .ref bs), (1, .ref (zA (zXE D cy K V ka E) 8 0)), (2, .ref (zA (zME D cy E) 6 0)), (3, .int x3)] [] Mx Nx Mm Nm := by
  obtain ⟨b, d, hb, hd, he, hR2⟩ := hS Mx Nx Mm Nm hR (xs (ix (x3 + 1))) (xs (ix (x3 + 2)))
  refine gl_aload_n C dL_law_1381 1 1 rfl rfl ?_
  refine gl_aload_n C dL_law_1382 0 0 rfl rfl ?_
  refine gl_iload_n C dL_law_1383 3 3 rfl rfl ?_
  refine gl_iconst (v := 1) C dL_law_1384 (by decide) ?_
  refine gl_iadd C dL_law_1385 ?_
  refine gl_sld C h1 dL_law_1386 ?_
  refine gl_aload_n C dL_law_1387 0 0 rfl rfl ?_
  refine gl_iload_n C dL_law_1388 3 3 rfl rfl ?_
  refine gl_iconst (v := 2) C dL_law_1389 (by decide) ?_
  refine gl_iadd C dL_law_1390 ?_
  refine gl_sld C h2 dL_law_1391 ?_
  refine gl_callX (Mx' := b.2) (Nx' := Nx) (rest := []) (st2 := [.int b.1]) C (mX4_read (eL E) okX Mx Nx (xs (ix (x3 + 1))) (xs (ix (x3 + 2))) b hb) lk_L_157 rfl (by decide) rfl rfl (Nat.le_of_ble_eq_true rfl) dL_law_1392 rfl ?_
  refine gl_aload_n C dL_law_1395 2 2 rfl rfl ?_
  refine gl_aload_n C dL_law_1396 0 0 rfl rfl ?_
  refine gl_iload_n C dL_law_1397 3 3 rfl rfl ?_
  refine gl_iconst (v := 1) C dL_law_1398 (by decide) ?_
  refine gl_iadd C dL_law_1399 ?_
  refine gl_sld C h1 dL_law_1400 ?_
  refine gl_aload_n C dL_law_1401 0 0 rfl rfl ?_
  refine gl_iload_n C dL_law_1402 3 3 rfl rfl ?_
  refine gl_iconst (v := 2) C dL_law_1403 (by decide) ?_
  refine gl_iadd C dL_law_1404 ?_
  refine gl_sld C h2 dL_law_1405 ?_
  refine gl_callM (Mm' := d.2) (Nm' := Nm) (rest := [.int b.1]) (st2 := [.int d.1, .int b.1]) C (mX5_read (eL E) okM Mm Nm (xs (ix (x3 + 1))) (xs (ix (x3 + 2))) d hd) lk_L_160 rfl (by decide) rfl rfl (Nat.le_of_ble_eq_true rfl) dL_law_1406 rfl ?_
  refine gl_eq (tgt := 1499) C dL_law_1409 (by decide) he ?_
  exact kk _ _ _ _ hR2
theorem lc_image (C : OkL D cy K V ka E bs L xs) {Rel : Mi → Ml → Mi → Ml → Prop} (hS : SimT_image Rel) (hR : Rel Mx Nx Mm Nm) {x3 : Int32} (h1 : inb (x3 + 1) L) (h2 : inb (x3 + 2) L) (h3 : inb (x3 + 3) L) (h4 : inb (x3 + 4) L) (h5 : inb (x3 + 5) L) (kk : ∀ (Mx : Mi) (Nx : Ml) (Mm : Mi) (Nm : Ml), Rel Mx Nx Mm Nm → GL D cy K V ka E Q 1499 [(0, .ref bs), (1, .ref (zA (zXE D cy K V ka E) 8 0)), (2, .ref (zA (zME D cy E) 6 0)), (3, .int x3)] [] Mx Nx Mm Nm) : GL D cy K V ka E Q 1414 [(0, .ref bs), (1, .ref (zA (zXE D cy K V ka E) 8 0)), (2, .ref (zA (zME D cy E) 6 0)), (3, .int x3)] [] Mx Nx Mm Nm := by
  obtain ⟨b, d, hb, hd, he, hR2⟩ := hS Mx Nx Mm Nm hR 
  refine gl_aload_n C dL_law_1414 1 1 rfl rfl ?_
  refine gl_callX (Mx' := b.2) (Nx' := Nx) (rest := []) (st2 := [.int b.1]) C (mX4_image (eL E) okX Mx Nx b hb) lk_L_161 rfl (by decide) rfl rfl (Nat.le_of_ble_eq_true rfl) dL_law_1415 rfl ?_
  refine gl_aload_n C dL_law_1418 2 2 rfl rfl ?_
  refine gl_callM (Mm' := d.2) (Nm' := Nm) (rest := [.int b.1]) (st2 := [.int d.1, .int b.1]) C (mX5_image (eL E) okM Mm Nm d hd) lk_L_164 rfl (by decide) rfl rfl (Nat.le_of_ble_eq_true rfl) dL_law_1419 rfl ?_
  refine gl_eq (tgt := 1499) C dL_law_1422 (by decide) he ?_
  exact kk _ _ _ _ hR2
theorem lc_undo (C : OkL D cy K V ka E bs L xs) {Rel : Mi → Ml → Mi → Ml → Prop} (hS : SimT_undo Rel) (hR : Rel Mx Nx Mm Nm) {x3 : Int32} (h1 : inb (x3 + 1) L) (h2 : inb (x3 + 2) L) (h3 : inb (x3 + 3) L) (h4 : inb (x3 + 4) L) (h5 : inb (x3 + 5) L) (kk : ∀ (Mx : Mi) (Nx : Ml) (Mm : Mi) (Nm : Ml), Rel Mx Nx Mm Nm → GL D cy K V ka E Q 1499 [(0, .ref bs), (1, .ref (zA (zXE D cy K V ka E) 8 0)), (2, .ref (zA (zME D cy E) 6 0)), (3, .int x3)] [] Mx Nx Mm Nm) : GL D cy K V ka E Q 1427 [(0, .ref bs), (1, .ref (zA (zXE D cy K V ka E) 8 0)), (2, .ref (zA (zME D cy E) 6 0)), (3, .int x3)] [] Mx Nx Mm Nm := by
  obtain ⟨b, d, hb, hd, he, hR2⟩ := hS Mx Nx Mm Nm hR 
  refine gl_aload_n C dL_law_1427 1 1 rfl rfl ?_
  refine gl_callX (Mx' := b.2) (Nx' := Nx) (rest := []) (st2 := [.int b.1]) C (mX4_undo (eL E) okX Mx Nx b hb) lk_L_165 rfl (by decide) rfl rfl (Nat.le_of_ble_eq_true rfl) dL_law_1428 rfl ?_
  refine gl_aload_n C dL_law_1431 2 2 rfl rfl ?_
  refine gl_callM (Mm' := d.2) (Nm' := Nm) (rest := [.int b.1]) (st2 := [.int d.1, .int b.1]) C (mX5_undo (eL E) okM Mm Nm d hd) lk_L_168 rfl (by decide) rfl rfl (Nat.le_of_ble_eq_true rfl) dL_law_1432 rfl ?_
  refine gl_eq (tgt := 1499) C dL_law_1435 (by decide) he ?_
  exact kk _ _ _ _ hR2
theorem lc_tear (C : OkL D cy K V ka E bs L xs) {Rel : Mi → Ml → Mi → Ml → Prop} (hS : SimT_tear Rel) (hR : Rel Mx Nx Mm Nm) {x3 : Int32} (h1 : inb (x3 + 1) L) (h2 : inb (x3 + 2) L) (h3 : inb (x3 + 3) L) (h4 : inb (x3 + 4) L) (h5 : inb (x3 + 5) L) (kk : ∀ (Mx : Mi) (Nx : Ml) (Mm : Mi) (Nm : Ml), Rel Mx Nx Mm Nm → GL D cy K V ka E Q 1499 [(0, .ref bs), (1, .ref (zA (zXE D cy K V ka E) 8 0)), (2, .ref (zA (zME D cy E) 6 0)), (3, .int x3)] [] Mx Nx Mm Nm) : GL D cy K V ka E Q 1440 [(0, .ref bs), (1, .ref (zA (zXE D cy K V ka E) 8 0)), (2, .ref (zA (zME D cy E) 6 0)), (3, .int x3)] [] Mx Nx Mm Nm := by
  obtain ⟨b, d, hb, hd, he, hR2⟩ := hS Mx Nx Mm Nm hR 
  refine gl_aload_n C dL_law_1440 1 1 rfl rfl ?_
  refine gl_callX (Mx' := b.2) (Nx' := Nx) (rest := []) (st2 := [.int b.1]) C (mX4_tear (eL E) okX Mx Nx b hb) lk_L_169 rfl (by decide) rfl rfl (Nat.le_of_ble_eq_true rfl) dL_law_1441 rfl ?_
  refine gl_aload_n C dL_law_1444 2 2 rfl rfl ?_
  refine gl_callM (Mm' := d.2) (Nm' := Nm) (rest := [.int b.1]) (st2 := [.int d.1, .int b.1]) C (mX5_tear (eL E) okM Mm Nm d hd) lk_L_172 rfl (by decide) rfl rfl (Nat.le_of_ble_eq_true rfl) dL_law_1445 rfl ?_
  refine gl_eq (tgt := 1499) C dL_law_1448 (by decide) he ?_
  exact kk _ _ _ _ hR2
theorem lc_count (C : OkL D cy K V ka E bs L xs) {Rel : Mi → Ml → Mi → Ml → Prop} (hS : SimT_count Rel) (hR : Rel Mx Nx Mm Nm) {x3 : Int32} (h1 : inb (x3 + 1) L) (h2 : inb (x3 + 2) L) (h3 : inb (x3 + 3) L) (h4 : inb (x3 + 4) L) (h5 : inb (x3 + 5) L) (kk : ∀ (Mx : Mi) (Nx : Ml) (Mm : Mi) (Nm : Ml), Rel Mx Nx Mm Nm → GL D cy K V ka E Q 1499 [(0, .ref bs), (1, .ref (zA (zXE D cy K V ka E) 8 0)), (2, .ref (zA (zME D cy E) 6 0)), (3, .int x3)] [] Mx Nx Mm Nm) : GL D cy K V ka E Q 1453 [(0, .ref bs), (1, .ref (zA (zXE D cy K V ka E) 8 0)), (2, .ref (zA (zME D cy E) 6 0)), (3, .int x3)] [] Mx Nx Mm Nm := by
  obtain ⟨b, d, hb, hd, he, hR2⟩ := hS Mx Nx Mm Nm hR (xs (ix (x3 + 1)))
  refine gl_aload_n C dL_law_1453 1 1 rfl rfl ?_
  refine gl_aload_n C dL_law_1454 0 0 rfl rfl ?_
  refine gl_iload_n C dL_law_1455 3 3 rfl rfl ?_
  refine gl_iconst (v := 1) C dL_law_1456 (by decide) ?_
  refine gl_iadd C dL_law_1457 ?_
  refine gl_sld C h1 dL_law_1458 ?_
  refine gl_callX (Mx' := b.2) (Nx' := Nx) (rest := []) (st2 := [.int b.1]) C (mX4_count (eL E) okX Mx Nx (xs (ix (x3 + 1))) b hb) lk_L_173 rfl (by decide) rfl rfl (Nat.le_of_ble_eq_true rfl) dL_law_1459 rfl ?_
  refine gl_aload_n C dL_law_1462 2 2 rfl rfl ?_
  refine gl_aload_n C dL_law_1463 0 0 rfl rfl ?_
  refine gl_iload_n C dL_law_1464 3 3 rfl rfl ?_
  refine gl_iconst (v := 1) C dL_law_1465 (by decide) ?_
  refine gl_iadd C dL_law_1466 ?_
  refine gl_sld C h1 dL_law_1467 ?_
  refine gl_callM (Mm' := d.2) (Nm' := Nm) (rest := [.int b.1]) (st2 := [.int d.1, .int b.1]) C (mX5_count (eL E) okM Mm Nm (xs (ix (x3 + 1))) d hd) lk_L_176 rfl (by decide) rfl rfl (Nat.le_of_ble_eq_true rfl) dL_law_1468 rfl ?_
  refine gl_eq (tgt := 1499) C dL_law_1471 (by decide) he ?_
  exact kk _ _ _ _ hR2
theorem lc_status (C : OkL D cy K V ka E bs L xs) {Rel : Mi → Ml → Mi → Ml → Prop} (hS : SimT_status Rel) (hR : Rel Mx Nx Mm Nm) {x3 : Int32} (h1 : inb (x3 + 1) L) (h2 : inb (x3 + 2) L) (h3 : inb (x3 + 3) L) (h4 : inb (x3 + 4) L) (h5 : inb (x3 + 5) L) (kk : ∀ (Mx : Mi) (Nx : Ml) (Mm : Mi) (Nm : Ml), Rel Mx Nx Mm Nm → GL D cy K V ka E Q 1499 [(0, .ref bs), (1, .ref (zA (zXE D cy K V ka E) 8 0)), (2, .ref (zA (zME D cy E) 6 0)), (3, .int x3)] [] Mx Nx Mm Nm) : GL D cy K V ka E Q 1476 [(0, .ref bs), (1, .ref (zA (zXE D cy K V ka E) 8 0)), (2, .ref (zA (zME D cy E) 6 0)), (3, .int x3)] [] Mx Nx Mm Nm := by
  obtain ⟨b, d, hb, hd, he, hR2⟩ := hS Mx Nx Mm Nm hR (xs (ix (x3 + 1)))
  refine gl_aload_n C dL_law_1476 1 1 rfl rfl ?_
  refine gl_aload_n C dL_law_1477 0 0 rfl rfl ?_
  refine gl_iload_n C dL_law_1478 3 3 rfl rfl ?_
  refine gl_iconst (v := 1) C dL_law_1479 (by decide) ?_
  refine gl_iadd C dL_law_1480 ?_
  refine gl_sld C h1 dL_law_1481 ?_
  refine gl_callX (Mx' := b.2) (Nx' := Nx) (rest := []) (st2 := [.int b.1]) C (mX4_status (eL E) okX Mx Nx (xs (ix (x3 + 1))) b hb) lk_L_177 rfl (by decide) rfl rfl (Nat.le_of_ble_eq_true rfl) dL_law_1482 rfl ?_
  refine gl_aload_n C dL_law_1485 2 2 rfl rfl ?_
  refine gl_aload_n C dL_law_1486 0 0 rfl rfl ?_
  refine gl_iload_n C dL_law_1487 3 3 rfl rfl ?_
  refine gl_iconst (v := 1) C dL_law_1488 (by decide) ?_
  refine gl_iadd C dL_law_1489 ?_
  refine gl_sld C h1 dL_law_1490 ?_
  refine gl_callM (Mm' := d.2) (Nm' := Nm) (rest := [.int b.1]) (st2 := [.int d.1, .int b.1]) C (mX5_status (eL E) okM Mm Nm (xs (ix (x3 + 1))) d hd) lk_L_180 rfl (by decide) rfl rfl (Nat.le_of_ble_eq_true rfl) dL_law_1491 rfl ?_
  refine gl_eq (tgt := 1499) C dL_law_1494 (by decide) he ?_
  exact kk _ _ _ _ hR2
end CASES
