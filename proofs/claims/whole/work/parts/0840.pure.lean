/-! the start, and all methods -/
theorem wf0 : Wf sg0 := by
  have z : sz sg0 = 0 := by decide +kernel
  refine ⟨?_, by omega, fun k h1 h2 => ?_, fun t ht => by omega⟩
  · rw [z]; rfl
  · rcases (show k = 3 ∨ k = 4 ∨ k = 5 by omega) with rfl | rfl | rfl
    · exact ⟨14, by omega, rfl⟩
    · exact ⟨3, by omega, rfl⟩
    · exact ⟨24, by omega, rfl⟩
theorem rel0 : Rel Mx0 N0 Mm0 N0 := by
  refine ⟨Eqv.refl' wf0, ⟨rfl, Or.inl rfl, fun q => absurd rfl q⟩, fun k _ => rfl, ⟨rfl, 0, by omega, rfl, fun k hk => by omega⟩, fun s hs => ?_⟩
  have e : Mx0 (20 + s) = fun _ => 0 := if_neg (by omega)
  refine ⟨?_, Or.inl rfl, ?_, ⟨0, by omega, rfl⟩, fun i hi => rfl⟩
  · rw [e]; rfl
  · rw [e]; rfl
theorem sims_all : Sims Rel := ⟨sim_fence, sim_spot, sim_rain, sim_cell, sim_tortoise, sim_of, sim_set, sim_turn, sim_as, sim_lend, sim_hours, sim_now, sim_on, sim_when, sim_meet, sim_carries, sim_soonest, sim_where, sim_waits, sim_waterhole, sim_many, sim_both, sim_censors, sim_tips, sim_spring, sim_kind, sim_feed, sim_wipe, sim_island, sim_sheet, sim_write, sim_copy, sim_lays, sim_book, sim_read, sim_image, sim_undo, sim_tear, sim_count, sim_status⟩
