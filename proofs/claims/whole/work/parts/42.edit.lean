/-! the reference's row 76 edited -/
theorem m_begin_loop (σ : St) (s : Int32) : ∀ (n j : Nat) (f : Nat → Int32), 42 - j < n → j ≤ 42 → f_X6_begin_76_2 n s (nI j) (sR σ 76 f) = some (sR σ 76 (fun m => if m = 1 then s else if j ≤ m ∧ m < 42 then 0 else f m)) := by
  intro n
  induction n with
  | zero => intro j f h; omega
  | succ n ih =>
    intro j f hn hj
    rw [f_X6_begin_76_2]
    by_cases he : j = 42
    · subst he
      rw [if_pos (by decide), sR_pA]
      congr 2
      funext m
      unfold upd
      by_cases h1 : m = 1
      · simp [h1]
      · simp [h1]; intro h2 h3; omega
    · rw [if_neg (show ¬ (42 : Int32) ≤ nI j from nI_ge (show j < 42 by omega) (by decide)), nI_c (by omega), gd_ok (by
        rintro (q | q)
        · exact nI_pos (by omega) q
        · omega), sR_pA, nI_1, ih (j + 1) _ (by omega) (by omega)]
      congr 2
      funext m
      unfold upd
      by_cases h1 : m = 1
      · simp [h1]
      · rw [if_neg h1, if_neg h1]
        by_cases h2 : m = j
        · rw [if_neg (by omega), if_pos h2, if_pos (by omega)]
        · rw [if_neg h2]
          by_cases h3 : j + 1 ≤ m ∧ m < 42
          · rw [if_pos h3, if_pos (by omega)]
          · rw [if_neg h3, if_neg (by omega)]
theorem m_begin (σ : St) (s : Int32) : f_X6_begin_76 s σ = some (sR σ 76 (fun m => if m = 1 then s else if m < 42 then 0 else sA σ 76 m)) := by
  have h := m_begin_loop σ s FU 0 (sA σ 76) (FU_lt (by omega)) (by omega)
  rw [sR_self] at h
  show f_X6_begin_76_2 FU s (nI 0) σ = _
  rw [h]
  simp
def FRx (L rd un : Nat) (g : Nat → Int32) (r : Nat → Nat → Int32) (a : Nat → Int32) : Prop := L ≤ 8 ∧ rd ≤ 6 ∧ un ≤ 8 ∧ g 0 = nI L ∧ a 0 = nI L ∧ a 1 = g 1 ∧ a 2 = g 3 ∧ a 3 = g 4 ∧ g 5 = nI rd ∧ a 4 = nI rd ∧ g 6 = nI un ∧ a 5 = nI un ∧
  (∀ i, i < L → a (6 + 3 * i) = r 0 i ∧ a (8 + 3 * i) = r 1 i ∧ ∃ m, m ≤ 20 ∧ r 1 i = nI m) ∧ BT L (g 2) (fun i => a (7 + 3 * i)) ∧
  (∀ j, j < rd → a (30 + 2 * j) = r 2 j ∧ a (31 + 2 * j) = r 3 j ∧ ∃ p, p < L ∧ r 2 j = nI p) ∧
  ∀ u, u < un → a (50 + 10 * u) = r 5 u ∧ a (51 + 10 * u) = r 6 u ∧ BT L (r 4 u) (fun i => a (42 + 10 * u + i))
/-- the numbers and rows of the flight that is now, and the reference's row -/
abbrev gN (σ : St) : Nat → Int32 := sI σ 1
abbrev rN (σ : St) : Nat → Nat → Int32 := fun q => sA σ (1 + 2 + 2 * q)
theorem FS.x {σ : St} (h : FS σ 1 76 0) : ∃ L rd un, FRx L rd un (gN σ) (rN σ) (sA σ 76) := by
  obtain ⟨L, rd, un, h⟩ := h
  refine ⟨L, rd, un, ?_⟩
  simp only [Nat.zero_add] at h
  exact h
theorem FS.of {σ : St} {L rd un : Nat} (h : FRx L rd un (gN σ) (rN σ) (sA σ 76)) : FS σ 1 76 0 := by
  refine ⟨L, rd, un, ?_⟩
  simp only [Nat.zero_add]
  exact h
/-- the rest of JJ, where the flight that is now alone has changed -/
theorem JJ.now {σ τ : St} (h : JJ σ) (hF : FS τ 1 76 0) (h0 : ∀ b, sI τ 0 b = sI σ 0 b) (h1 : ∀ k, 16 ≤ k → k ≤ 45 → ∀ b, sI τ k b = sI σ k b) (h2 : ∀ k b, sL τ k b = sL σ k b) (h3 : ∀ k, 16 ≤ k → k ≤ 45 → ∀ b, sA τ k b = sA σ k b) (h4 : sI τ 72 0 = sI σ 72 0) (h5 : sI τ 75 15 = sI σ 75 15) (h6 : ∀ k, k = 74 ∨ k = 77 ∨ k = 78 ∨ k = 79 ∨ k = 86 → ∀ b, sA τ k b = sA σ k b) : JJ τ := by
  obtain ⟨-, q2, q3, q4, q5, q6, q7, q8, q9, q10, q11, q12, T, hT, t1, t2, t3⟩ := h
  refine ⟨hF, fun h => (q2 ((h0 6).symm.trans h)).moved (h1 16 (by decide) (by decide)) (fun q hq => h3 _ (by omega) (by omega)) (h6 77 (by decide)), fun h => (q3 ((h0 7).symm.trans h)).moved (h1 31 (by decide) (by decide)) (fun q hq => h3 _ (by omega) (by omega)) (h6 77 (by decide)), ?_, ?_, ?_, ?_, ?_, ?_, ?_, ?_, ?_, T, hT, h4.trans t1, h5.trans t2, fun i hi => ?_⟩
  · rw [h0]; exact q4
  · rw [h0]; exact q5
  · rw [h0, h6 78 (by decide)]; exact q6
  · rw [h0, h6 78 (by decide)]; exact q7
  · rw [h2, h2]; exact q8
  · rw [h2, h2]; exact q9
  · rw [h0, h6 79 (by decide)]; exact q10
  · rw [h0, h6 79 (by decide)]; exact q11
  · rw [h0, h6 79 (by decide)]; exact q12
  · rw [h6 86 (by decide), h6 74 (by decide)]; exact t3 i hi
theorem FRx.zero {g : Nat → Int32} {r : Nat → Nat → Int32} {a : Nat → Int32} (g0 : g 0 = 0) (g2 : g 2 = 0) (g3 : g 3 = 0) (g4 : g 4 = 0) (g5 : g 5 = 0) (g6 : g 6 = 0) (h1 : a 1 = g 1) (ha : ∀ n, n < 42 → n ≠ 1 → a n = 0) : FRx 0 0 0 g r a :=
  ⟨by decide, by decide, by decide, g0, ha 0 (by decide) (by decide), h1, (ha 2 (by decide) (by decide)).trans g3.symm, (ha 3 (by decide) (by decide)).trans g4.symm, g5, ha 4 (by decide) (by decide), g6, ha 5 (by decide) (by decide), fun i hi => absurd hi (Nat.not_lt_zero i), ⟨0, g2, by decide, fun i hi => by show a _ = _; rw [ha _ (by omega) (by omega), Nat.zero_div]; rfl⟩, fun i hi => absurd hi (Nat.not_lt_zero i), fun i hi => absurd hi (Nat.not_lt_zero i)⟩
theorem eq_flight {σ : St} (h : JJ σ) (x : Int32) : EQI (f_X5_flight x) (f_X6_flight x) σ := by
  unfold EQI f_X5_flight f_X6_flight f_X5_refusedBad f_X6_bad f_X0_reset_1 f_X6_locks
  simp only [e_within, m_inI x 0 9 0 9 rfl rfl, bd_s, bv_s, if10, m_begin]
  by_cases hc : 0 ≤ x ∧ x ≤ 9
  · simp only [if_pos hc]
    obtain ⟨L, rd, un, hx⟩ := h.1.x
    have e : sA (pI (pI (pI (pI (pI (pI (pI σ 1 0 0) 1 1 x) 1 2 0) 1 3 0) 1 4 0) 1 5 0) 1 6 0) 76 0 = sI σ 1 0 := hx.2.2.2.2.1.trans hx.2.2.2.1.symm
    refine ⟨_, _, _, rfl, by rw [e], ?_⟩
    · refine h.now (FS.of (L := 0) (rd := 0) (un := 0) (FRx.zero rfl rfl rfl rfl rfl rfl rfl fun n hn h1 => ?_)) ?_ ?_ ?_ ?_ rfl rfl ?_
      · rw [sR_at, if_neg h1, if_pos hn]
      · intro b; rfl
      · intro k hk1 hk2 b
        rw [sR_I]
        simp only [sI_pI]
        simp [show k ≠ 1 by omega]
      · intro k b; rfl
      · intro k hk1 hk2 b
        rw [sR_o _ _ _ _ _ (by omega)]
        rfl
      · intro k hk b
        rw [sR_o _ _ _ _ _ (by omega)]
        rfl
  · simp only [if_neg hc]
    exact ⟨_, _, _, rfl, rfl, h.bad⟩
theorem eq_forget {σ : St} (h : JJ σ) : EQI f_X5_forget f_X6_forget σ := by
  obtain ⟨L, rd, un, hL, hrd, hun, g0, a0, a1, a2, a3, g5, a4, g6, a5, hk, ⟨B, hB, hB2, hB3⟩, hr, hu⟩ := h.1.x
  refine ⟨sI σ 1 5, pI σ 1 5 0, pA (pI σ 1 5 0) 76 4 0, rfl, ?_, ?_⟩
  · unfold f_X6_forget
    rw [show sA (pI σ 1 5 0) 76 4 = nI rd from a4, show sI σ 1 5 = nI rd from g5]
  · have ha : ∀ n, n ≠ 4 → sA (pA (pI σ 1 5 0) 76 4 0) 76 n = sA σ 76 n := fun n hn => by rw [sA_pA, if_neg (fun q => hn q.2)]; rfl
    refine h.now (FS.of (L := L) (rd := 0) (un := un) ⟨hL, by decide, hun, g0, a0, a1, a2, a3, rfl, rfl, g6, a5, fun i hi => ?_, ⟨B, hB, hB2, fun i hi => ?_⟩, fun i hi => absurd hi (Nat.not_lt_zero i), fun u hu' => ?_⟩) (fun b => rfl) (fun k h1 h2 b => ?_) (fun k b => rfl) (fun k h1 h2 b => ?_) rfl rfl (fun k hk b => ?_)
    · rw [ha _ (by omega), ha _ (by omega)]; exact hk i hi
    · show sA _ 76 _ = _
      rw [ha _ (by omega)]; exact hB3 i hi
    · obtain ⟨q1, q2, B', hB', hB2', hB3'⟩ := hu u hu'
      rw [ha _ (by omega), ha _ (by omega)]
      refine ⟨q1, q2, B', hB', hB2', fun i hi => ?_⟩
      show sA _ 76 _ = _
      rw [ha _ (by omega)]; exact hB3' i hi
    · rw [sI_pA, sI_pI, if_neg (by omega)]
    · rw [sA_pA, if_neg (by omega)]; rfl
    · rw [sA_pA, if_neg (by omega)]; rfl
