section RNS
variable {L B : Nat} {dn ah st mo : Int32} {k : Nat} {KD RD : Nat → Int32}
theorem rn_st (j i : Nat) (h : i ≠ j) : (rn L B dn ah st mo k KD RD (j + 1)).2.2.2.2 i = (rn L B dn ah st mo k KD RD j).2.2.2.2 i := by
  rw [rn, rn1]
  exact pk_un h
theorem rn_M (i : Nat) : ∀ j, i < j → (rn L B dn ah st mo k KD RD j).2.2.2.2 i = (rn L B dn ah st mo k KD RD (i + 1)).2.2.2.2 i := by
  intro j
  induction j with
  | zero => intro h; omega
  | succ j ih =>
    intro h
    by_cases e : i = j
    · subst e; rfl
    · rw [rn_st j i e]
      exact ih (by omega)
def wsm (M : Nat → Int32) : Nat → Int32
  | 0 => 0
  | j + 1 => wsm M j + M j
theorem rnW_sum (j : Nat) (hj : j ≤ L) : rnW L B dn ah st mo k KD RD j = nI j + wsm (rn L B dn ah st mo k KD RD L).2.2.2.2 j := by
  induction j with
  | zero => rfl
  | succ j ih =>
    rw [rnW, ih (by omega), wsm, rn_M j L (by omega), nI_succ]
    rw [Int32.add_assoc, Int32.add_assoc]
    congr 1
    rw [← Int32.add_assoc, ← Int32.add_assoc, Int32.add_comm (wsm _ j) 1]
end RNS
theorem m_water_loop {σ : St} {L : Nat} {M : Nat → Int32} (hL8 : L ≤ 8) (hA : sA σ 76 0 = nI L) (hM : ∀ i, i < L → sA σ 85 i = M i) : ∀ (n j : Nat), L - j < n → j ≤ L → f_X6_waterOf_7 n (nI L + wsm M j) (nI j) σ = some (nI L + wsm M L, σ) := by
  intro n
  induction n with
  | zero => intro j h; omega
  | succ n ih =>
    intro j hn hj
    rw [f_X6_waterOf_7, f_X6_locks, bd_s, hA]
    by_cases he : j = L
    · subst he
      rw [if_pos (nI_le (Nat.le_refl _) (by omega))]
    · rw [if_neg (nI_ge (show j < L by omega) (by omega)), nI_c (by omega), gd_ok (by
        rintro (q | q)
        · exact nI_pos (by omega) q
        · omega), hM j (by omega), nI_1, Int32.add_assoc]
      exact ih (j + 1) (by omega) (by omega)
theorem m_waterOf {σ : St} {L B : Nat} {dn ah st mo : Int32} {k : Nat} {KD RD : Nat → Int32} (hL8 : L ≤ 8) (hA : sA σ 76 0 = nI L) (ha : ∀ i, i < L → sA σ 85 i = (rn L B dn ah st mo k KD RD L).2.2.2.2 i) : f_X6_waterOf σ = some (rnW L B dn ah st mo k KD RD L, σ) := by
  unfold f_X6_waterOf f_X6_locks
  rw [bd_s, hA, rnW_sum L (Nat.le_refl _)]
  have h := m_water_loop hL8 hA ha FU 0 (FU_lt (by omega)) (by omega)
  rw [wsm, Int32.add_zero] at h
  exact h
theorem eq_takes {σ : St} (h : JJ σ) (d a k s w : Int32) : EQI (f_X5_takes d a k s w) (f_X6_takes d a k s w) σ := by
  unfold EQI f_X5_takes f_X6_takes f_X5_refusedBad f_X6_bad
  simp only [e_isRun, e_within, m_isRun, m_inI s 0 1 0 1 rfl rfl, m_inI w 0 1 0 1 rfl rfl, bd_s, if10]
  by_cases h1 : QR d a k
  · by_cases h2 : 0 ≤ s ∧ s ≤ 1
    · by_cases h3 : 0 ≤ w ∧ w ≤ 1
      · simp only [if_pos h1, if_pos h2, if_pos h3, if_pos (And.intro h1 h2)]
        obtain ⟨hd, hah, n, hn1, hn9, rfl⟩ := QR.get h1
        obtain ⟨L, B, st, KD, RD, hri⟩ := h.ri
        obtain ⟨τ, e1, hT, hq, ha, h7, h8, t6, t3⟩ := c_run hri (ah := a) (sh := s) hd hn1 hn9
        rw [e1]
        obtain ⟨υ, e2, hM, hb, -⟩ := m_runNow (hri.moved hT.Rl) (sh := s) hd hah hn1 hn9
        have hJ : JJ υ := h.moved (hT.Rl.tr hM.Rl)
        by_cases hw : w = 0
        · rw [if_pos hw, h7]
          refine ⟨_, _, _, rfl, ?_, hJ⟩
          rw [e2, bd_s, if_pos hw]
        · rw [if_neg hw, h8]
          refine ⟨_, _, _, rfl, ?_, hJ⟩
          rw [e2, bd_s, if_neg hw, m_waterOf hri.2.1 ((hri.moved (hT.Rl.tr hM.Rl)).2.2.2.2.2.2.2.1) (fun i hi => (hb i hi).2.2.2.2), bd_s]
      · simp only [if_pos h1, if_pos h2, if_neg h3, if_pos (And.intro h1 h2)]
        exact ⟨_, _, _, rfl, rfl, h.bad⟩
    · simp only [if_pos h1, if_neg h2, if_neg (fun q : QR d a k ∧ (0 ≤ s ∧ s ≤ 1) => h2 q.2)]
      exact ⟨_, _, _, rfl, rfl, h.bad⟩
  · simp only [if_neg h1, if_neg (fun q : QR d a k ∧ (0 ≤ s ∧ s ≤ 1) => h1 q.1)]
    exact ⟨_, _, _, rfl, rfl, h.bad⟩
theorem eq_at {σ : St} (h : JJ σ) (d a k s p w : Int32) : EQI (f_X5_at d a k s p w) (f_X6_at d a k s p w) σ := by
  obtain ⟨L, B, st, KD, RD, hri⟩ := h.ri
  have hL : sI σ 1 0 = nI L := hri.1
  have hA : sA σ 76 0 = nI L := hri.2.2.2.2.2.2.2.1
  have hL8 : L ≤ 8 := hri.2.1
  unfold EQI f_X5_at f_X6_at f_X5_refusedBad f_X6_bad
  simp only [e_isRun, e_has hL, e_within, m_isRun, m_inI s 0 1 0 1 rfl rfl, m_inI w 0 4 0 4 rfl rfl, bd_s, if10]
  by_cases h1 : QR d a k
  · by_cases h2 : 0 ≤ s ∧ s ≤ 1
    · by_cases h3 : 0 ≤ p ∧ p ≤ nI L - 1
      · by_cases h4 : 0 ≤ w ∧ w ≤ 4
        · simp only [if_pos h1, if_pos h2, if_pos h3, if_pos h4, if_pos (And.intro h1 h2)]
          obtain ⟨hd, hah, n, hn1, hn9, rfl⟩ := QR.get h1
          obtain ⟨j, hj, rfl⟩ := (has_iff hL8).mp h3
          obtain ⟨i, hi, rfl⟩ := i_of (n := 4) rfl h4
          obtain ⟨τ, e1, hT, hq, ha, h7, h8, t6, t3⟩ := c_run hri (ah := a) (sh := s) hd hn1 hn9
          rw [e1]
          obtain ⟨υ, e2, hM, hb, -⟩ := m_runNow (hri.moved hT.Rl) (sh := s) hd hah hn1 hn9
          have hJ : JJ υ := h.moved (hT.Rl.tr hM.Rl)
          obtain ⟨a1, a2, a3, a4, a5⟩ := ha j hj
          obtain ⟨b1, b2, b3, b4, b5⟩ := hb j hj
          have g : ¬ (nI j < 0 ∨ 8 ≤ (nI j).toNatClampNeg) := by
            rw [nI_c (by omega)]
            rintro (q | q)
            · exact nI_pos (by omega) q
            · omega
          have hAτ : sA τ 76 0 = nI L := (hri.moved hT.Rl).2.2.2.2.2.2.2.1
          have hj8 : j < 8 := by omega
          rcases (show i = 0 ∨ i = 1 ∨ i = 2 ∨ i = 3 ∨ i = 4 by omega) with rfl | rfl | rfl | rfl | rfl
          · rw [if_pos nI_0, e_get (a := 63) (show j < 8 from hj8), bd_s]
            refine ⟨_, _, _, rfl, ?_, hJ⟩
            rw [m_isLock hAτ, bd_s, if_pos h3, if_neg (by decide), e2, bd_s, if_pos nI_0, gd_ok g, nI_c (by omega), a1, b1]
          · rw [if_neg (by decide), if_pos (by decide), e_get (a := 65) (show j < 8 from hj8), bd_s]
            refine ⟨_, _, _, rfl, ?_, hJ⟩
            rw [m_isLock hAτ, bd_s, if_pos h3, if_neg (by decide), e2, bd_s, if_neg (by decide), if_pos (by decide), gd_ok g, nI_c (by omega), a2, b2]
          · rw [if_neg (by decide), if_neg (by decide), if_pos (by decide), e_get (a := 67) (show j < 8 from hj8), bd_s]
            refine ⟨_, _, _, rfl, ?_, hJ⟩
            rw [m_isLock hAτ, bd_s, if_pos h3, if_neg (by decide), e2, bd_s, if_neg (by decide), if_neg (by decide), if_pos (by decide), gd_ok g, nI_c (by omega), a3, b3]
          · rw [if_neg (by decide), if_neg (by decide), if_neg (by decide), if_pos (by decide), e_get (a := 69) (show j < 8 from hj8), bd_s]
            refine ⟨_, _, _, rfl, ?_, hJ⟩
            rw [m_isLock hAτ, bd_s, if_pos h3, if_neg (by decide), e2, bd_s, if_neg (by decide), if_neg (by decide), if_neg (by decide), if_pos (by decide), gd_ok g, nI_c (by omega), a4, b4]
          · rw [if_neg (by decide), if_neg (by decide), if_neg (by decide), if_neg (by decide), e_get (a := 71) (show j < 8 from hj8), bd_s]
            refine ⟨_, _, _, rfl, ?_, hJ⟩
            rw [m_isLock hAτ, bd_s, if_pos h3, if_neg (by decide), e2, bd_s, if_neg (by decide), if_neg (by decide), if_neg (by decide), if_neg (by decide), gd_ok g, nI_c (by omega), a5, b5]
        · simp only [if_pos h1, if_pos h2, if_pos h3, if_neg h4, if_pos (And.intro h1 h2)]
          refine ⟨_, _, _, rfl, ?_, h.bad⟩
          rw [m_isLock (show sA (pI σ 0 10 (sI σ 0 10 + 1)) 76 0 = nI L from hA), bd_s, if_pos h3, if_neg (by decide)]
      · simp only [if_pos h1, if_pos h2, if_neg h3, if_pos (And.intro h1 h2)]
        refine ⟨_, _, _, rfl, ?_, h.bad⟩
        rw [m_isLock (show sA (pI σ 0 10 (sI σ 0 10 + 1)) 76 0 = nI L from hA), bd_s, if_neg h3, if_pos rfl]
    · simp only [if_pos h1, if_neg h2, if_neg (fun q : QR d a k ∧ (0 ≤ s ∧ s ≤ 1) => h2 q.2)]
      exact ⟨_, _, _, rfl, rfl, h.bad⟩
  · simp only [if_neg h1, if_neg (fun q : QR d a k ∧ (0 ≤ s ∧ s ≤ 1) => h1 q.1)]
    exact ⟨_, _, _, rfl, rfl, h.bad⟩
theorem dark_loop {σ τ : St} {L : Nat} {O : Nat → Int32} (hL8 : L ≤ 8) (hL : sI σ 1 0 = nI L) (hA : sA τ 76 0 = nI L) (h1 : ∀ i, i < L → sA σ 67 i = O i) (h2 : ∀ i, i < L → sA τ 83 i = O i) (m : Int32) : ∀ (n j : Nat) (x : Int32), L - j < n → j ≤ L → ∃ r, f_X5_dark_60 n m x (nI j) σ = some (r, σ) ∧ f_X6_dark_45 n m x (nI j) τ = some (r, τ) := by
  intro n
  induction n with
  | zero => intro j x h; omega
  | succ n ih =>
    intro j x hn hj
    rw [f_X5_dark_60, f_X6_dark_45, f_X6_locks, bd_s, hA, hL]
    by_cases he : j = L
    · subst he
      rw [if_pos (nI_le (Nat.le_refl _) (by omega)), if_pos (nI_le (Nat.le_refl _) (by omega))]
      exact ⟨x, rfl, rfl⟩
    · rw [if_neg (nI_ge (show j < L by omega) (by omega)), if_neg (nI_ge (show j < L by omega) (by omega)), e_get (a := 67) (show j < 8 by omega), bd_s, nI_c (by omega), gd_ok (by
        rintro (q | q)
        · exact nI_pos (by omega) q
        · omega), h1 j (by omega), h2 j (by omega)]
      unfold f_X5_dark_92 f_X6_dark_73
      by_cases hc : m < O j
      · rw [if_pos hc, if_pos hc, nI_1, Int32.add_zero]
        exact ih (j + 1) x (by omega) (by omega)
      · rw [if_neg hc, if_neg hc, nI_1]
        exact ih (j + 1) (x + 1) (by omega) (by omega)
theorem eq_dark {σ : St} (h : JJ σ) (d a k m : Int32) : EQI (f_X5_dark d a k m) (f_X6_dark d a k m) σ := by
  unfold EQI f_X5_dark f_X6_dark f_X5_refusedBad f_X6_bad
  simp only [e_isRun, e_within, m_isRun, m_inI m 0 999 0 999 rfl rfl, bd_s, if10]
  by_cases h1 : QR d a k
  · by_cases h3 : 0 ≤ m ∧ m ≤ 999
    · simp only [if_pos h1, if_pos h3, if_pos (show QR d a k ∧ ((0 : Int32) ≤ 0 ∧ (0 : Int32) ≤ 1) from ⟨h1, by decide⟩)]
      obtain ⟨hd, hah, n, hn1, hn9, rfl⟩ := QR.get h1
      obtain ⟨L, B, st, KD, RD, hri⟩ := h.ri
      obtain ⟨τ, e1, hT, hq, ha, h7, h8, t6, t3⟩ := c_run hri (ah := a) (sh := 0) hd hn1 hn9
      rw [e1]
      obtain ⟨υ, e2, hM, hb, -⟩ := m_runNow (hri.moved hT.Rl) (sh := 0) hd hah hn1 hn9
      have hL8 := hri.2.1
      obtain ⟨r, r1, r2⟩ := dark_loop hL8 (hri.moved hT.Rl).1 (hri.moved (hT.Rl.tr hM.Rl)).2.2.2.2.2.2.2.1 (fun i hi => (ha i hi).2.2.1) (fun i hi => (hb i hi).2.2.1) m FU 0 0 (FU_lt (by omega)) (by omega)
      refine ⟨r, τ, υ, r1, ?_, h.moved (hT.Rl.tr hM.Rl)⟩
      rw [e2, bd_s]
      exact r2
    · simp only [if_pos h1, if_neg h3, if_pos (show QR d a k ∧ ((0 : Int32) ≤ 0 ∧ (0 : Int32) ≤ 1) from ⟨h1, by decide⟩)]
      exact ⟨_, _, _, rfl, rfl, h.bad⟩
  · simp only [if_neg h1, if_neg (fun q : QR d a k ∧ ((0 : Int32) ≤ 0 ∧ (0 : Int32) ≤ 1) => h1 q.1)]
    exact ⟨_, _, _, rfl, rfl, h.bad⟩
