/-! the digest -/
def hs (A : Nat → Int32) : Nat → Nat → Int64 → Int64
  | _, 0, h => h
  | o, n + 1, h => hs A (o + 1) n (31 * h + (A o).toInt64)
theorem m_sums_loop (σ : St) (o m : Nat) (hm : o + m ≤ 122) : ∀ (n j : Nat) (h : Int64), m - j < n → j ≤ m → f_X6_sums_6 n (nI o) (nI m) h (nI j) σ = some (hs (sA σ 76) (o + j) (m - j) h, σ) := by
  intro n
  induction n with
  | zero => intro j h h0; omega
  | succ n ih =>
    intro j h hn hj
    rw [f_X6_sums_6]
    by_cases he : j = m
    · subst he
      rw [if_pos (Int32.le_refl _), Nat.sub_self]
      rfl
    · rw [if_neg (nI_ge (by omega) (by omega)), nI_add, nI_c (by omega), gd_ok (by
        rintro (q | q)
        · exact nI_pos (by omega) q
        · omega), nI_1, ih (j + 1) _ (by omega) (by omega), show m - j = (m - (j + 1)) + 1 by omega]
      rfl
theorem m_sums (σ : St) (o m : Nat) (hm : o + m ≤ 122) (h : Int64) : f_X6_sums h (nI o) (nI m) σ = some (hs (sA σ 76) o m h, σ) :=
  m_sums_loop σ o m hm FU 0 h (FU_lt (by omega)) (by omega)
theorem e_digest_106 {σ : St} {rd : Nat} (hrd : rd ≤ 6) (g5 : sI σ 1 5 = nI rd) (hr : ∀ j, j < rd → sA σ 76 (30 + 2 * j) = sA σ 7 j ∧ sA σ 76 (31 + 2 * j) = sA σ 9 j) : ∀ (n j : Nat) (h : Int64), rd - j < n → j ≤ rd → f_X5_digest_106 n h (nI j) σ = some (31 * (31 * (hs (sA σ 76) (30 + 2 * j) (2 * (rd - j)) h) + sL σ 0 8) + sL σ 0 9, σ) := by
  intro n
  induction n with
  | zero => intro j h h0; omega
  | succ n ih =>
    intro j h hn hj
    rw [f_X5_digest_106, g5]
    by_cases he : j = rd
    · subst he
      rw [if_pos (Int32.le_refl _), Nat.sub_self]
      rfl
    · rw [if_neg (nI_ge (by omega) (by omega)), e_get (a := 7) (show j < 6 by omega), bd_s, e_get (a := 9) (show j < 6 by omega), bd_s, nI_1, ih (j + 1) _ (by omega) (by omega), show 2 * (rd - j) = 2 * (rd - (j + 1)) + 1 + 1 by omega, ← (hr j (by omega)).1, ← (hr j (by omega)).2]
      rw [show 30 + 2 * (j + 1) = 30 + 2 * j + 1 + 1 by omega, show 31 + 2 * j = 30 + 2 * j + 1 by omega]
      rfl
theorem e_digest_33 {σ : St} {L B : Nat} (hL : L ≤ 8) (g0 : sI σ 1 0 = nI L) (hB : sI σ 1 2 = nI B) (hB2 : B < 256) (hk : ∀ i, i < L → sA σ 76 (6 + 3 * i) = sA σ 3 i ∧ sA σ 76 (7 + 3 * i) = nI (B / 2 ^ i % 2) ∧ sA σ 76 (8 + 3 * i) = sA σ 5 i) : ∀ (n j : Nat) (h : Int64), L - j < n → j ≤ L → f_X5_digest_33 n h (nI j) σ = f_X5_digest_106 FU (hs (sA σ 76) (6 + 3 * j) (3 * (L - j)) h) 0 σ := by
  intro n
  induction n with
  | zero => intro j h h0; omega
  | succ n ih =>
    intro j h hn hj
    rw [f_X5_digest_33, g0]
    by_cases he : j = L
    · subst he
      rw [if_pos (Int32.le_refl _), Nat.sub_self]
      rfl
    · rw [if_neg (nI_ge (by omega) (by omega)), e_get (a := 3) (show j < 8 by omega), bd_s, e_standsOf hB hB2 (by omega), bd_s, e_get (a := 5) (show j < 8 by omega), bd_s, nI_1, ih (j + 1) _ (by omega) (by omega), show 3 * (L - j) = 3 * (L - (j + 1)) + 1 + 1 + 1 by omega, ← (hk j (by omega)).1, ← (hk j (by omega)).2.1, ← (hk j (by omega)).2.2]
      rw [show 6 + 3 * (j + 1) = 6 + 3 * j + 1 + 1 + 1 by omega, show 8 + 3 * j = 6 + 3 * j + 1 + 1 by omega, show 7 + 3 * j = 6 + 3 * j + 1 by omega]
      rfl
theorem eq_digest {σ : St} (h : JJ σ) : EQL f_X5_digest f_X6_digest σ := by
  obtain ⟨L, rd, un, hL, hrd, hun, g0, a0, a1, a2, a3, g5, a4, g6, a5, hk, ⟨B, hB, hB2, hB3⟩, hr, hu⟩ := h.1.x
  have hB8 : B < 256 := Nat.lt_of_lt_of_le hB2 (Nat.pow_le_pow_right (by decide) hL)
  have key : ∀ (n j : Nat) (x : Int64), 7 - j < n → j ≤ 7 → ∃ r, f_X5_digest_6 n x (nI j) σ = some (r, σ) ∧ f_X6_digest_6 n x (nI j) σ = some (r, σ) := by
    intro n
    induction n with
    | zero => intro j x h0; omega
    | succ n ih =>
      intro j x hn hj
      rw [f_X5_digest_6, f_X6_digest_6]
      by_cases he : j = 7
      · subst he
        rw [if_pos (by decide), if_pos (by decide)]
        refine ⟨_, (e_digest_33 hL g0 hB hB8 (fun i hi => ⟨(hk i hi).1, hB3 i (by omega), (hk i hi).2.1⟩) FU 0 x (FU_lt (by omega)) (by omega)).trans (e_digest_106 hrd g5 (fun j hj => ⟨(hr j hj).1, (hr j hj).2.1⟩) FU 0 _ (FU_lt (by omega)) (by omega)), ?_⟩
        unfold f_X6_locks
        have e3 : (3 : Int32) * sA σ 76 0 = nI (3 * L) := by rw [a0, show (3 : Int32) = nI 3 from rfl, nI_xm]
        have e2 : (2 : Int32) * sA σ 76 4 = nI (2 * rd) := by rw [a4, show (2 : Int32) = nI 2 from rfl, nI_xm]
        rw [bd_s, e3, show (6 : Int32) = nI 6 from rfl, m_sums σ 6 (3 * L) (by omega), bd_s, e2, show (30 : Int32) = nI 30 from rfl, m_sums σ 30 (2 * rd) (by omega), bd_s, h.2.2.2.2.2.2.2.1, h.2.2.2.2.2.2.2.2.1]
        rfl
      · rw [if_neg (show ¬ (6 : Int32) < nI j from fun q => by
          have := (nI_ltI (a := 6) (b := j) (by decide) (by omega)).mp q
          omega), if_neg (show ¬ (7 : Int32) ≤ nI j from nI_ge (show j < 7 by omega) (by decide))]
        obtain ⟨r, e1, e2⟩ := m_counted h (show j ≤ 6 by omega)
        rw [e1, e2, bd_s, bd_s, nI_1]
        exact ih (j + 1) _ (by omega) (by omega)
  obtain ⟨r, e1, e2⟩ := key FU 0 953 (FU_lt (by omega)) (by omega)
  exact ⟨r, σ, σ, e1, e2, h⟩
