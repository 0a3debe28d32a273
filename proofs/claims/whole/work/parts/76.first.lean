/-! the first state, before the reference's begin -/
def sB : St := (fun k j => if (k = 1 ∨ k = 16 ∨ k = 31 ∨ k = 46) ∧ j = 1 then 5 else if k = 61 ∧ j = 2 then 1 else if k = 61 ∧ j = 4 then 5 else 0, fun k j => if (k = 0 ∧ j = 9) ∨ (k = 75 ∧ j = 5) then 1 else 0, fun _ _ => 0)
set_option maxRecDepth 100000 in
theorem wl_lf (G : GG) : (wl G sB).take 75 = flLF (G.2.1 0) (G.2.1, G.2.2.1) := rfl
theorem JJ_first : JJ (sR sB 76 (fun m => if m = 1 then 5 else if m < 42 then 0 else sA sB 76 m)) := by
  refine JJ.start rfl rfl rfl rfl rfl rfl ?_ (fun n h1 h2 => ?_) rfl rfl rfl rfl rfl rfl rfl rfl rfl rfl rfl rfl rfl rfl
  · rw [sR_at, if_pos rfl]; rfl
  · rw [sR_at, if_neg h2, if_pos h1]
