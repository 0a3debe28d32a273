/-! the first state behind the reference's begin, and where its cells lie -/
def sF : St := (fun k j => if (k = 1 ∨ k = 16 ∨ k = 31 ∨ k = 46) ∧ j = 1 then 5 else if k = 61 ∧ j = 2 then 1 else if k = 61 ∧ j = 4 then 5 else 0, fun k j => if (k = 0 ∧ j = 9) ∨ (k = 75 ∧ j = 5) then 1 else 0, fun k => if k = 76 then upd (fun _ => 0) 1 5 else fun _ => 0)
theorem JJ_F : JJ sF := by
  refine JJ.start rfl rfl rfl rfl rfl rfl rfl (fun n h1 h2 => ?_) rfl rfl rfl rfl rfl rfl rfl rfl rfl rfl rfl rfl rfl rfl
  show upd (fun _ => 0) 1 5 n = 0
  unfold upd
  exact if_neg h2
def gF (D : va_G) (q0 q1 : Nat) (ua va : Nat → Nat) (kI kZ : ClassId) (aK aV : Nat → Nat) : GG := (D, fun k => [q0, ua 1, ua 2, ua 3, ua 4, ua 5, ua 6, ua 7, ua 8, ua 9, ua 10, ua 11, ua 12, ua 13, ua 14, ua 15, ua 16, ua 17, ua 18, ua 19, ua 20, ua 21, ua 22, ua 23, ua 24, ua 25, ua 26, ua 27, ua 28, ua 29, ua 30, ua 31, ua 32, ua 33, ua 34, ua 35, ua 36, ua 37, ua 38, ua 39, ua 40, ua 41, ua 42, ua 43, ua 44, ua 45, ua 46, ua 47, ua 48, ua 49, ua 50, ua 51, ua 52, ua 53, ua 54, ua 55, ua 56, ua 57, ua 58, ua 59, ua 60, ua 61, ua 62, ua 63, ua 64, ua 65, ua 66, ua 67, ua 68, ua 69, ua 70, ua 71, ua 72, ua 73, ua 74, q1, va 1, va 2, va 3, va 4, va 5, va 6, va 7, va 8, va 9, va 10, va 11, va 12, va 13].getD k 0, kI, kZ, aK, aV)
set_option maxRecDepth 100000 in
theorem wl_F (D : va_G) (q0 q1 : Nat) (ua va : Nat → Nat) (kI kZ : ClassId) (aK aV : Nat → Nat) : wl (gF D q0 q1 ua va kI kZ aK aV) sF = flLF q0 (ua, kI) ++ flRM q1 (va, kI, kZ) := rfl
