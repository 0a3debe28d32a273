theorem if10 {α : Type} {P : Prop} [Decidable P] {x y : α} : (if (if P then (1 : Int32) else 0) = 0 then x else y) = if P then y else x := by
  by_cases h : P
  · rw [if_pos h, if_pos h, if_neg (by decide)]
  · rw [if_neg h, if_neg h, if_pos rfl]
theorem gb10 {γ : Type} {P : Prop} [Decidable P] {x : Option γ} : gb (if P then (1 : Int32) else 0) x = x := by
  by_cases h : P
  · rw [if_pos h]; rfl
  · rw [if_neg h]; rfl
/-- one array is another -/
def sR (σ : St) (a : Nat) (f : Nat → Int32) : St := (σ.1, σ.2.1, fun k n => if k = a then f n else σ.2.2 k n)
theorem sR_self (σ : St) (a : Nat) : sR σ a (sA σ a) = σ := by
  unfold sR sA
  congr 2
  funext k n
  by_cases h : k = a
  · rw [if_pos h, h]
  · rw [if_neg h]
theorem sR_pA (σ : St) (a : Nat) (f : Nat → Int32) (j : Nat) (v : Int32) : pA (sR σ a f) a j v = sR σ a (upd f j v) := by
  unfold sR pA up2 upd
  congr 2
  funext k n
  by_cases h : k = a
  · by_cases h2 : n = j
    · simp [h, h2]
    · simp [h, h2]
  · simp [h]
theorem sR_at (σ : St) (a : Nat) (f : Nat → Int32) (n : Nat) : sA (sR σ a f) a n = f n := by unfold sR sA; simp
theorem sR_o (σ : St) (a k : Nat) (f : Nat → Int32) (n : Nat) (h : k ≠ a) : sA (sR σ a f) k n = sA σ k n := by unfold sR sA; simp [h]
theorem sR_I (σ : St) (a : Nat) (f : Nat → Int32) (k n : Nat) : sI (sR σ a f) k n = sI σ k n := rfl
theorem sR_L (σ : St) (a : Nat) (f : Nat → Int32) (k n : Nat) : sL (sR σ a f) k n = sL σ k n := rfl
theorem eq_clear {σ : St} (h : JJ σ) : EQI f_X5_clear f_X6_clear σ := by
  obtain ⟨h1, h2, h3, h4, h5, h6, h7, h8, h9, h10, h11, h12, T, hT, t1, t2, t3⟩ := h
  refine ⟨sI σ 72 0, pI σ 72 0 0, pI (pI σ 72 0 0) 75 15 0, rfl, ?_, h1, h2, h3, h4, h5, h6, h7, h8, h9, h10, h11, h12, 0, by decide, rfl, rfl, fun i hi => absurd hi (Nat.not_lt_zero i)⟩
  unfold f_X6_clear
  have e : sI (pI σ 72 0 0) 75 15 = sI σ 72 0 := t2.trans t1.symm
  rw [e]
theorem eq_strength {σ : St} (h : JJ σ) (x : Int32) : EQI (f_X5_strength x) (f_X6_strength x) σ := by
  unfold EQI f_X5_strength f_X6_strength f_X5_refusedBad f_X6_bad
  simp only [e_within, m_inI x 0 9 0 9 rfl rfl, bd_s, if10]
  by_cases hc : 0 ≤ x ∧ x ≤ 9
  · simp only [if_pos hc]
    obtain ⟨⟨L, rd, un, hL, hrd, hun, g0, a0, a1, a2, a3, g5, a4, g6, a5, hk, hb, hr, hu⟩, h2⟩ := h
    refine ⟨sI σ 1 1, pI σ 1 1 x, pA (pI σ 1 1 x) 76 1 x, rfl, by rw [show sA (pI σ 1 1 x) 76 1 = sI σ 1 1 from a1], ?_, h2⟩
    exact ⟨L, rd, un, hL, hrd, hun, g0, a0, rfl, a2, a3, g5, a4, g6, a5, fun i hi => by
      show sA (pA (pI σ 1 1 x) 76 1 x) 76 _ = _ ∧ sA (pA (pI σ 1 1 x) 76 1 x) 76 _ = _ ∧ _
      rw [sA_pA, sA_pA, if_neg (by omega), if_neg (by omega)]
      exact hk i hi, by
      obtain ⟨B, hB, hB2, hB3⟩ := hb
      refine ⟨B, hB, hB2, fun i hi => ?_⟩
      show sA (pA (pI σ 1 1 x) 76 1 x) 76 _ = _
      rw [sA_pA, if_neg (by omega)]
      exact hB3 i hi, fun j hj => by
      show sA (pA (pI σ 1 1 x) 76 1 x) 76 _ = _ ∧ sA (pA (pI σ 1 1 x) 76 1 x) 76 _ = _ ∧ _
      rw [sA_pA, sA_pA, if_neg (by omega), if_neg (by omega)]
      exact hr j hj, fun u hu' => by
      obtain ⟨q1, q2, B, hB, hB2, hB3⟩ := hu u hu'
      show sA (pA (pI σ 1 1 x) 76 1 x) 76 _ = _ ∧ sA (pA (pI σ 1 1 x) 76 1 x) 76 _ = _ ∧ _
      rw [sA_pA, sA_pA, if_neg (by omega), if_neg (by omega)]
      refine ⟨q1, q2, B, hB, hB2, fun i hi => ?_⟩
      show sA (pA (pI σ 1 1 x) 76 1 x) 76 _ = _
      rw [sA_pA, if_neg (by omega)]
      exact hB3 i hi⟩
  · simp only [if_neg hc]
    exact ⟨_, _, _, rfl, rfl, h.bad⟩
/-- a number from 0 to n is one of these -/
theorem i_of {x : Int32} {M : Int32} {n : Nat} (hM : M.toInt = n) (h : 0 ≤ x ∧ x ≤ M) : ∃ j, j ≤ n ∧ x = nI j := nI_of2 hM (Int32.not_lt.mpr h.1) h.2
theorem eq_type {σ : St} (h : JJ σ) (x : Int32) : EQI (f_X5_type x) (f_X6_type x) σ := by
  unfold EQI f_X5_type f_X6_type f_X5_refusedBad f_X6_bad f_X5_refusedFull f_X6_full f_X3_append
  simp only [e_within, m_inI x 0 127 0 127 rfl rfl, bd_s, if10]
  by_cases hc : 0 ≤ x ∧ x ≤ 127
  · simp only [if_pos hc]
    obtain ⟨c, hc1, rfl⟩ := i_of (n := 127) rfl hc
    obtain ⟨h1, h2, h3, h4, h5, h6, h7, h8, h9, h10, h11, h12, T, hT, t1, t2, t3⟩ := id h
    rw [t1]
    by_cases hf : T = 150
    · subst hf
      rw [if_neg (by decide)]
      refine ⟨_, _, _, rfl, ?_, h.full⟩
      show (if sI σ 75 15 = 150 then _ else _) = _
      rw [t2, if_pos (by decide)]
    · rw [if_pos (show nI T < 150 from nI_lt (show T < 150 by omega) (by decide)), e_put (a := 74) (show T < 150 by omega), bv_s, bv_s]
      refine ⟨_, _, pI (pA (pI (pA σ 74 T (nI c)) 72 0 (sI (pA σ 74 T (nI c)) 72 0 + 1)) 86 T (nI c)) 75 15 (nI (T + 1)), rfl, ?_, ?_⟩
      · show (if sI σ 75 15 = 150 then _ else gd (sI σ 75 15 < 0 ∨ 150 ≤ (sI σ 75 15).toNatClampNeg) (some (sI σ 75 15 + 1, pI (pA (pI (pA σ 74 T (nI c)) 72 0 (sI (pA σ 74 T (nI c)) 72 0 + 1)) 86 (sI σ 75 15).toNatClampNeg (nI c)) 75 15 (sI σ 75 15 + 1)))) = _
        rw [t2, if_neg (fun e => by
          have := (nI_eq (a := T) (b := 150) (by omega) (by decide)).mp e
          omega), nI_c (by omega), gd_ok (by
          rintro (q | q)
          · exact nI_pos (by omega) q
          · omega), nI_1]
        show _ = some (sI σ 72 0 + 1, _)
        rw [t1, nI_1]
      · refine ⟨h1, h2, h3, h4, h5, h6, h7, h8, h9, h10, h11, h12, T + 1, by omega, ?_, rfl, fun i hi => ?_⟩
        · show sI σ 72 0 + 1 = _
          rw [t1, nI_1]
        · show (if 86 = 86 ∧ i = T then nI c else sA σ 86 i) = (if 74 = 74 ∧ i = T then nI c else sA σ 74 i) ∧ ∃ d, d < 128 ∧ (if 74 = 74 ∧ i = T then nI c else sA σ 74 i) = nI d
          by_cases e : i = T
          · rw [if_pos ⟨rfl, e⟩, if_pos ⟨rfl, e⟩]
            exact ⟨rfl, c, by omega, rfl⟩
          · rw [if_neg (fun q => e q.2), if_neg (fun q => e q.2)]
            exact t3 i (by omega)
  · simp only [if_neg hc]
    exact ⟨_, _, _, rfl, rfl, h.bad⟩
theorem eq_part {σ : St} (h : JJ σ) (x : Int32) : EQL (f_X5_part x) (f_X6_part x) σ := by
  unfold EQL f_X5_part f_X6_part f_X5_refusedBad f_X6_bad
  simp only [e_within, bd_s, if10]
  by_cases h0 : x = 0
  · subst h0
    rw [if_pos (by decide), if_pos rfl]
    refine ⟨_, _, _, rfl, ?_, h⟩
    rw [if_pos rfl, h.2.2.2.2.2.2.2.1]
  · by_cases h1 : x = 1
    · subst h1
      rw [if_pos (by decide), if_neg (by decide)]
      refine ⟨_, _, _, rfl, ?_, h⟩
      rw [if_neg (by decide), if_pos rfl, h.2.2.2.2.2.2.2.2.1]
    · have hn : ¬ (0 ≤ x ∧ x ≤ 1) := by
        intro hc
        obtain ⟨j, hj, rfl⟩ := i_of (n := 1) rfl hc
        rcases (show j = 0 ∨ j = 1 by omega) with rfl | rfl
        · exact h0 rfl
        · exact h1 rfl
      simp only [if_neg hn]
      refine ⟨_, _, _, rfl, ?_, h.bad⟩
      rw [if_neg h0, if_neg h1]
theorem eq_status {σ : St} (h : JJ σ) (x : Int32) : EQI (f_X5_status x) (f_X6_status x) σ := by
  unfold EQI f_X5_status f_X6_status f_X6_bad
  simp only [m_inI x 0 2 0 2 rfl rfl, bd_s, if10]
  by_cases hc : 0 ≤ x ∧ x ≤ 2
  · obtain ⟨j, hj, rfl⟩ := i_of (n := 2) rfl hc
    simp only [if_pos hc]
    rcases (show j = 0 ∨ j = 1 ∨ j = 2 by omega) with rfl | rfl | rfl
    · refine ⟨sI σ 0 10, σ, σ, rfl, ?_, h⟩
      rw [gd_ok (by decide), show (nI 0).toNatClampNeg = 0 from rfl, h.2.2.2.2.2.2.2.2.2.1]
    · refine ⟨sI σ 0 11, σ, σ, rfl, ?_, h⟩
      rw [gd_ok (by decide), show (nI 1).toNatClampNeg = 1 from rfl, h.2.2.2.2.2.2.2.2.2.2.1]
    · refine ⟨sI σ 0 12, σ, σ, rfl, ?_, h⟩
      rw [gd_ok (by decide), show (nI 2).toNatClampNeg = 2 from rfl, h.2.2.2.2.2.2.2.2.2.2.2.1]
  · simp only [if_neg hc]
    refine ⟨-1, _, _, ?_, rfl, h.bad⟩
    rw [if_neg (fun e => hc (by rw [e]; decide)), if_neg (fun e => hc (by rw [e]; decide)), if_neg (fun e => hc (by rw [e]; decide))]
theorem m_counted {σ : St} (h : JJ σ) {j : Nat} (hj : j ≤ 6) : ∃ r, f_X5_howMany (nI j) σ = some (r, σ) ∧ f_X6_counted (nI j) σ = some (r, σ) := by
  obtain ⟨⟨L, rd, un, hL, hrd, hun, g0, a0, a1, a2, a3, g5, a4, g6, a5, hk, hb, hr, hu⟩, h2, h3, h4, h5, h6, h7, h8, h9, h10, h11, h12, T, hT, t1, t2, t3⟩ := h
  have b0 : sA σ 76 0 = nI L := a0
  have b1 : sA σ 76 1 = sI σ 1 1 := a1
  have b2 : sA σ 76 2 = sI σ 1 3 := a2
  have b3 : sA σ 76 3 = sI σ 1 4 := a3
  have b4 : sA σ 76 4 = nI rd := a4
  have b5 : sA σ 76 5 = nI un := a5
  rcases (show j = 0 ∨ j = 1 ∨ j = 2 ∨ j = 3 ∨ j = 4 ∨ j = 5 ∨ j = 6 by omega) with rfl | rfl | rfl | rfl | rfl | rfl | rfl
  · exact ⟨sI σ 1 0, rfl, by rw [g0, ← b0]; rfl⟩
  · exact ⟨sI σ 1 1, rfl, by rw [← b1]; rfl⟩
  · exact ⟨sI σ 1 3, rfl, by rw [← b2]; rfl⟩
  · exact ⟨sI σ 1 4, rfl, by rw [← b3]; rfl⟩
  · exact ⟨sI σ 1 5, rfl, by rw [g5, ← b4]; rfl⟩
  · exact ⟨sI σ 1 6, rfl, by rw [g6, ← b5]; rfl⟩
  · exact ⟨sI σ 72 0, rfl, by rw [t1, ← t2]; rfl⟩
theorem eq_count {σ : St} (h : JJ σ) (x : Int32) : EQI (f_X5_count x) (f_X6_count x) σ := by
  unfold EQI f_X5_count f_X6_count f_X5_refusedBad f_X6_bad
  simp only [e_within, m_inI x 0 6 0 6 rfl rfl, bd_s, if10]
  by_cases hc : 0 ≤ x ∧ x ≤ 6
  · obtain ⟨j, hj, rfl⟩ := i_of (n := 6) rfl hc
    simp only [if_pos hc]
    obtain ⟨r, e1, e2⟩ := m_counted h hj
    exact ⟨r, σ, σ, by rw [e1, bd_s], by rw [e2, bd_s], h⟩
  · simp only [if_neg hc]
    exact ⟨_, _, _, rfl, rfl, h.bad⟩
