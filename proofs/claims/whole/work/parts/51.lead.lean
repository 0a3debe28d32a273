/-- the best of some, from the k-th on: where b is best so far -/
def blr (T : Nat → Int32) : Nat → Nat → Nat → Nat
  | 0, _, b => b
  | n + 1, k, b => blr T n (k + 1) (if T b ≤ T k then b else k)
theorem blr_le {T : Nat → Int32} {lo hi : Nat} : ∀ (n k b : Nat), k + n ≤ hi + 1 → lo ≤ k → lo ≤ b → b ≤ hi → lo ≤ blr T n k b ∧ blr T n k b ≤ hi := by
  intro n
  induction n with
  | zero => intro k b _ _ h1 h2; exact ⟨h1, h2⟩
  | succ n ih =>
    intro k b hk hl h1 h2
    rw [blr]
    refine ih (k + 1) _ (by omega) (by omega) ?_ ?_
    · split <;> omega
    · split <;> omega
theorem Tq.lead {σ : St} {L B : Nat} {dn ah st mo : Int32} {k : Nat} {KD RD : Nat → Int32} (h : Tq σ L B dn ah st mo k KD RD) {n : Nat} (h1 : 1 ≤ n) (h9 : n ≤ 9) : Tq (pI σ 61 2 (nI n)) L B dn ah st mo n KD RD := by
  obtain ⟨q1, q2, q3, q4, q5, q6, q7, q8, q9, q10, q11, q12, q13⟩ := h
  exact ⟨q1, q2, q3, q4, q5, q6, q7, rfl, h1, h9, q11, q12, q13⟩
theorem Tq.strg {σ : St} {L B : Nat} {dn ah st mo : Int32} {k : Nat} {KD RD : Nat → Int32} (h : Tq σ L B dn ah st mo k KD RD) (s : Int32) : Tq (pI σ 61 4 s) L B dn ah s mo k KD RD := by
  obtain ⟨q1, q2, q3, q4, q5, q6, q7, q8, q9, q10, q11, q12, q13⟩ := h
  exact ⟨q1, q2, q3, q4, q5, q6, q7, q8, q9, q10, rfl, q12, q13⟩
theorem e_best_loop {L B : Nat} {dn ah st mo : Int32} {KD RD : Nat → Int32} : ∀ (m k b k0 : Nat) (σ : St), 10 - k < m → 1 ≤ k → k ≤ 10 → 1 ≤ b → b ≤ 9 → Tq σ L B dn ah st mo k0 KD RD → ∃ τ, f_X5_bestLead_34 m (nI b) (rnT L B dn ah st mo b KD RD L) (nI k) σ = some (nI (blr (fun k => rnT L B dn ah st mo k KD RD L) (10 - k) k b), τ) ∧ Tr σ τ := by
  intro m
  induction m with
  | zero => intro k b k0 σ h; omega
  | succ m ih =>
    intro k b k0 σ hm hk1 hk hb1 hb9 hT
    rw [f_X5_bestLead_34]
    by_cases he : k = 10
    · subst he
      rw [if_pos (by decide)]
      exact ⟨σ, rfl, Tr.rf⟩
    · have hT2 := hT.lead hk1 (show k ≤ 9 by omega)
      obtain ⟨τ, e1, hs, -, -, -⟩ := e_go hT2
      rw [if_neg (show ¬ (9 : Int32) < nI k from nI_nlt (b := k) (a := 9) (by omega) (by omega)), e1, bd_s]
      unfold f_X5_bestLead_78
      obtain ⟨n, hn⟩ : ∃ n, 10 - k = n + 1 := ⟨9 - k, by omega⟩
      have e10 : 10 - (k + 1) = n := by omega
      rw [hn, blr]
      have hTr : Tr σ τ := Tr.pI.tr hs.Tr
      by_cases hc : rnT L B dn ah st mo b KD RD L ≤ rnT L B dn ah st mo k KD RD L
      · rw [if_pos hc, if_pos hc, nI_1]
        obtain ⟨υ, e2, h2⟩ := ih (k + 1) b k τ (by omega) (by omega) (by omega) hb1 hb9 (hT2.moved hs)
        rw [e10] at e2
        exact ⟨υ, e2, hTr.tr h2⟩
      · rw [if_neg hc, if_neg hc, nI_1]
        obtain ⟨υ, e2, h2⟩ := ih (k + 1) k k τ (by omega) (by omega) (by omega) hk1 (by omega) (hT2.moved hs)
        rw [e10] at e2
        exact ⟨υ, e2, hTr.tr h2⟩
theorem e_bestLead {σ : St} {L B : Nat} {st : Int32} {KD RD : Nat → Int32} (h : RI σ L B st KD RD) {dn ah sh : Int32} (hd : dn = 0 ∨ dn = 1) : ∃ τ, f_X5_bestLead dn ah sh σ = some (nI (blr (fun k => rnT L B dn ah st (2 * sh) k KD RD L) 8 2 1), τ) ∧ Tr σ τ := by
  obtain ⟨τ, e1, hT, hq, ha, h7, h8, t6, t3⟩ := c_run h (ah := ah) (sh := sh) (k := 1) hd (by decide) (by decide)
  obtain ⟨υ, e2, h2⟩ := e_best_loop FU 2 1 1 τ (FU_lt (by omega)) (by decide) (by decide) (by decide) (by decide) hq
  refine ⟨υ, ?_, hT.tr h2⟩
  unfold f_X5_bestLead
  rw [show (1 : Int32) = nI 1 from rfl, e1]
  exact e2
theorem m_few_loop {L B : Nat} {dn ah st sh : Int32} {KD RD : Nat → Int32} (hd : dn = 0 ∨ dn = 1) (hah : ah = 0 ∨ ah = 1 ∨ ah = 2) : ∀ (m k b : Nat) (σ : St), 10 - k < m → 1 ≤ k → k ≤ 10 → 1 ≤ b → b ≤ 9 → RI σ L B st KD RD → sI σ 75 13 = nI b → ∃ τ, f_X6_fewestBy_7 m dn ah sh (rnT L B dn ah st (2 * sh) b KD RD L) (nI k) σ = some (rnT L B dn ah st (2 * sh) (blr (fun k => rnT L B dn ah st (2 * sh) k KD RD L) (10 - k) k b) KD RD L, τ) ∧ Mr σ τ ∧ sI τ 75 13 = nI (blr (fun k => rnT L B dn ah st (2 * sh) k KD RD L) (10 - k) k b) := by
  intro m
  induction m with
  | zero => intro k b σ h; omega
  | succ m ih =>
    intro k b σ hm hk1 hk hb1 hb9 hR h13
    rw [f_X6_fewestBy_7]
    by_cases he : k = 10
    · subst he
      rw [if_pos (by decide)]
      exact ⟨σ, rfl, Mr.rf, h13⟩
    · obtain ⟨τ, e1, hM, -, h13'⟩ := m_runNow hR (sh := sh) hd hah hk1 (show k ≤ 9 by omega)
      rw [if_neg (show ¬ (10 : Int32) ≤ nI k from nI_ge (b := 10) (by omega) (by decide)), e1, bd_s]
      unfold f_X6_fewestBy_42 f_X6_fewestBy_59
      obtain ⟨n, hn⟩ : ∃ n, 10 - k = n + 1 := ⟨9 - k, by omega⟩
      have e10 : 10 - (k + 1) = n := by omega
      rw [hn, blr]
      have hMp : ∀ v, Mr σ (pI τ 75 13 v) := fun v => hM.tr ⟨fun k b h => by rw [sI_pI, if_neg (by omega)], fun _ _ => rfl, fun _ _ _ => rfl⟩
      by_cases hc : rnT L B dn ah st (2 * sh) b KD RD L ≤ rnT L B dn ah st (2 * sh) k KD RD L
      · rw [if_pos hc, if_pos hc, if_pos hc, nI_1, h13', h13]
        obtain ⟨υ, e2, h2, h3⟩ := ih (k + 1) b (pI τ 75 13 (nI b)) (by omega) (by omega) (by omega) hb1 hb9 (hR.moved (hMp _).Rl) rfl
        rw [e10] at e2 h3
        exact ⟨υ, e2, (hMp _).tr h2, h3⟩
      · rw [if_neg hc, if_neg hc, if_neg hc, nI_1]
        obtain ⟨υ, e2, h2, h3⟩ := ih (k + 1) k (pI τ 75 13 (nI k)) (by omega) (by omega) (by omega) hk1 (by omega) (hR.moved (hMp _).Rl) rfl
        rw [e10] at e2 h3
        exact ⟨υ, e2, (hMp _).tr h2, h3⟩
theorem far_gt {t : Nat} (h : t ≤ 2000) : ¬ (1000000 : Int32) ≤ nI t := nI_ge (b := 1000000) (by omega) (by decide)
theorem m_fewestBy {σ : St} {L B : Nat} {st : Int32} {KD RD : Nat → Int32} (h : RI σ L B st KD RD) {dn ah sh : Int32} (hd : dn = 0 ∨ dn = 1) (hah : ah = 0 ∨ ah = 1 ∨ ah = 2) (hs : sh = 0 ∨ sh = 1) : ∃ τ, f_X6_fewestBy dn ah sh σ = some (rnT L B dn ah st (2 * sh) (blr (fun k => rnT L B dn ah st (2 * sh) k KD RD L) 8 2 1) KD RD L, τ) ∧ Mr σ τ ∧ sI τ 75 13 = nI (blr (fun k => rnT L B dn ah st (2 * sh) k KD RD L) 8 2 1) := by
  unfold f_X6_fewestBy
  obtain ⟨n, hn⟩ : ∃ n, FU = n + 1 := ⟨999, rfl⟩
  have hn8 : 8 < n := by
    have : FU = 1000 := rfl
    omega
  rw [hn, f_X6_fewestBy_7]
  obtain ⟨τ, e1, hM, -, h13'⟩ := m_runNow h (k := 1) (sh := sh) hd hah (by decide) (by decide)
  obtain ⟨t, ht, et⟩ := rnT_b (B := B) (dn := dn) (ah := ah) (st := st) (KD := KD) h.2.1 (show 1 ≤ 1 by decide) h.2.2.2.2.2.2.1 (mo_b hs)
  have hf : ¬ (1000000 : Int32) ≤ rnT L B dn ah st (2 * sh) 1 KD RD L := by rw [et]; exact far_gt ht
  rw [if_neg (by decide), show (1 : Int32) = nI 1 from rfl, e1, bd_s, if_neg hf]
  unfold f_X6_fewestBy_42 f_X6_fewestBy_59
  rw [if_neg hf]
  have hMp : Mr σ (pI τ 75 13 (nI 1)) := hM.tr ⟨fun k b h => by rw [sI_pI, if_neg (by omega)], fun _ _ => rfl, fun _ _ _ => rfl⟩
  obtain ⟨υ, e2, h2, h3⟩ := m_few_loop hd hah n 2 1 (pI τ 75 13 (nI 1)) (by omega) (by decide) (by decide) (by decide) (by decide) (h.moved hMp.Rl) rfl
  exact ⟨υ, e2, hMp.tr h2, h3⟩
theorem a12 {a : Int32} (h : 1 ≤ a ∧ a ≤ 2) : a = 0 ∨ a = 1 ∨ a = 2 := by
  obtain ⟨j, hj, rfl⟩ := i_of (x := a) (n := 2) rfl ⟨Int32.le_trans (by decide) h.1, h.2⟩
  rcases (show j = 0 ∨ j = 1 ∨ j = 2 by omega) with rfl | rfl | rfl
  · exact Or.inl rfl
  · exact Or.inr (Or.inl rfl)
  · exact Or.inr (Or.inr rfl)
theorem eq_lead {σ : St} (h : JJ σ) (d a s : Int32) : EQI (f_X5_lead d a s) (f_X6_lead d a s) σ := by
  unfold EQI f_X5_lead f_X6_lead f_X5_refusedBad f_X6_bad
  simp only [e_isLed, m_isDown, m_inI a 1 2 1 2 rfl rfl, m_inI s 0 1 0 1 rfl rfl, bd_s, if10]
  by_cases h1 : 0 ≤ d ∧ d ≤ 1
  · by_cases h2 : 1 ≤ a ∧ a ≤ 2
    · by_cases h3 : 0 ≤ s ∧ s ≤ 1
      · simp only [if_pos h1, if_pos h2, if_pos h3, if_pos (And.intro h1 (And.intro h2 h3))]
        obtain ⟨L, B, st, KD, RD, hri⟩ := h.ri
        obtain ⟨τ, e1, hT⟩ := e_bestLead hri (ah := a) (sh := s) (i01 h1)
        obtain ⟨υ, e2, hM, h13⟩ := m_fewestBy (hri.moved hT.Rl) (i01 h1) (a12 h2) (i01 h3)
        refine ⟨_, τ, υ, by rw [e1, bd_s], ?_, h.moved (hT.Rl.tr hM.Rl)⟩
        rw [e2, bd_s, h13]
      · simp only [if_pos h1, if_pos h2, if_neg h3, if_neg (fun q : (0 ≤ d ∧ d ≤ 1) ∧ (1 ≤ a ∧ a ≤ 2) ∧ (0 ≤ s ∧ s ≤ 1) => h3 q.2.2)]
        exact ⟨_, _, _, rfl, rfl, h.bad⟩
    · simp only [if_pos h1, if_neg h2, if_neg (fun q : (0 ≤ d ∧ d ≤ 1) ∧ (1 ≤ a ∧ a ≤ 2) ∧ (0 ≤ s ∧ s ≤ 1) => h2 q.2.1)]
      exact ⟨_, _, _, rfl, rfl, h.bad⟩
  · simp only [if_neg h1, if_neg (fun q : (0 ≤ d ∧ d ≤ 1) ∧ (1 ≤ a ∧ a ≤ 2) ∧ (0 ≤ s ∧ s ≤ 1) => h1 q.1)]
    exact ⟨_, _, _, rfl, rfl, h.bad⟩
theorem e_minutes {σ : St} {L B : Nat} {st : Int32} {KD RD : Nat → Int32} (h : RI σ L B st KD RD) {dn ah sh : Int32} (hd : dn = 0 ∨ dn = 1) : ∃ τ, f_X5_minutesByBestLead dn ah sh σ = some (rnT L B dn ah st (2 * sh) (blr (fun k => rnT L B dn ah st (2 * sh) k KD RD L) 8 2 1) KD RD L, τ) ∧ Tr σ τ := by
  obtain ⟨τ, e1, hT⟩ := e_bestLead h (ah := ah) (sh := sh) hd
  have hb := blr_le (T := fun k => rnT L B dn ah st (2 * sh) k KD RD L) (lo := 1) (hi := 9) 8 2 1 (by decide) (by decide) (by decide) (by decide)
  obtain ⟨υ, e2, hT2, -⟩ := c_run (h.moved hT.Rl) (ah := ah) (sh := sh) hd hb.1 hb.2
  unfold f_X5_minutesByBestLead
  rw [e1, bd_s, e2]
  exact ⟨υ, rfl, hT.tr hT2⟩
theorem eq_worth {σ : St} (h : JJ σ) (d s : Int32) : EQI (f_X5_worth d s) (f_X6_worth d s) σ := by
  unfold EQI f_X5_worth f_X6_worth f_X5_refusedBadFar f_X6_bad
  simp only [e_within, m_isDown, m_inI s 0 1 0 1 rfl rfl, bd_s, if10]
  by_cases h1 : 0 ≤ d ∧ d ≤ 1
  · by_cases h3 : 0 ≤ s ∧ s ≤ 1
    · simp only [if_pos h1, if_pos h3]
      obtain ⟨L, B, st, KD, RD, hri⟩ := h.ri
      obtain ⟨τ, e1, hT⟩ := e_minutes hri (ah := 1) (sh := s) (i01 h1)
      have hri1 := hri.moved hT.Rl
      obtain ⟨τ2, e2, hT2⟩ := e_minutes hri1 (ah := 2) (sh := s) (i01 h1)
      have hri2 := hri1.moved hT2.Rl
      obtain ⟨υ, e3, hM, -⟩ := m_fewestBy (ah := 1) hri2 (i01 h1) (by decide) (i01 h3)
      have hri3 := hri2.moved hM.Rl
      obtain ⟨υ2, e4, hM2, -⟩ := m_fewestBy (ah := 2) hri3 (i01 h1) (by decide) (i01 h3)
      refine ⟨_, τ2, υ2, by rw [e1, bd_s, e2, bd_s], ?_, h.moved ((hT.Rl.tr hT2.Rl).tr (hM.Rl.tr hM2.Rl))⟩
      rw [e3, bd_s, e4, bd_s]
    · simp only [if_pos h1, if_neg h3]
      exact ⟨_, _, _, rfl, rfl, h.bad⟩
  · simp only [if_neg h1]
    exact ⟨_, _, _, rfl, rfl, h.bad⟩
theorem e_strong_loop {L B : Nat} {dn ah mo : Int32} {k : Nat} {KD RD : Nat → Int32} : ∀ (m i b : Nat) (st : Int32) (σ : St), 10 - i < m → i ≤ 10 → b ≤ 9 → Tq σ L B dn ah st mo k KD RD → ∃ τ, f_X5_strong_59 m (nI b) (rnT L B dn ah (nI b) mo k KD RD L) (nI i) σ = some (nI (blr (fun s => rnT L B dn ah (nI s) mo k KD RD L) (10 - i) i b), τ) ∧ Tr σ τ := by
  intro m
  induction m with
  | zero => intro i b st σ h; omega
  | succ m ih =>
    intro i b st σ hm hi hb9 hT
    rw [f_X5_strong_59]
    by_cases he : i = 10
    · subst he
      rw [if_pos (by decide)]
      exact ⟨σ, rfl, Tr.rf⟩
    · have hT2 := hT.strg (nI i)
      obtain ⟨τ, e1, hs, -, -, -⟩ := e_go hT2
      rw [if_neg (show ¬ (9 : Int32) < nI i from nI_nlt (b := i) (a := 9) (by omega) (by omega)), e1, bd_s]
      unfold f_X5_strong_103
      obtain ⟨n, hn⟩ : ∃ n, 10 - i = n + 1 := ⟨9 - i, by omega⟩
      have e10 : 10 - (i + 1) = n := by omega
      rw [hn, blr]
      have hTr : Tr σ τ := Tr.pI.tr hs.Tr
      by_cases hc : rnT L B dn ah (nI b) mo k KD RD L ≤ rnT L B dn ah (nI i) mo k KD RD L
      · rw [if_pos hc, if_pos hc, nI_1]
        obtain ⟨υ, e2, h2⟩ := ih (i + 1) b _ τ (by omega) (by omega) hb9 (hT2.moved hs)
        rw [e10] at e2
        exact ⟨υ, e2, hTr.tr h2⟩
      · rw [if_neg hc, if_neg hc, nI_1]
        obtain ⟨υ, e2, h2⟩ := ih (i + 1) i _ τ (by omega) (by omega) (by omega) (hT2.moved hs)
        rw [e10] at e2
        exact ⟨υ, e2, hTr.tr h2⟩
theorem m_strong_run {σ : St} {L B : Nat} {st : Int32} {KD RD : Nat → Int32} (h : RI σ L B st KD RD) {dn ah sh : Int32} {k : Nat} (hd : dn = 0 ∨ dn = 1) (hah : ah = 0 ∨ ah = 1 ∨ ah = 2) (hk1 : 1 ≤ k) (hk9 : k ≤ 9) (s : Int32) : ∃ τ, (∀ F : Int32 → St → Option (Int32 × St), bv (f_X6_layHand σ) (fun σ45 => bd (f_X6_goRun dn ah (nI k) (2 * sh) (pI σ45 75 12 s)) F) = F (rnT L B dn ah s (2 * sh) k KD RD L) τ) ∧ Mr σ τ := by
  have hq : Mq (pI (sR (pI σ 75 12 (sA σ 76 1)) 80 (fun m => if m < 8 then sA σ 76 (7 + 3 * m) else sA σ 80 m)) 75 12 s) L B s KD RD := by
    obtain ⟨q1, q2, q3, q4, q5⟩ := h.mq
    exact ⟨q1, q2, rfl, q4, q5⟩
  obtain ⟨τ, e, hm, -⟩ := m_go (mo := 2 * sh) hd hah hk1 hk9 hq
  refine ⟨τ, fun F => ?_, ?_⟩
  · rw [m_layHand, bv_s, e, bd_s]
  · refine (Mr.hand σ).tr (Mr.tr ?_ hm.Mr)
    exact ⟨fun k b h => by rw [sI_pI, if_neg (by omega)], fun _ _ => rfl, fun _ _ _ => rfl⟩
theorem m_strong_loop {L B : Nat} {dn ah st sh : Int32} {k : Nat} {KD RD : Nat → Int32} (hd : dn = 0 ∨ dn = 1) (hah : ah = 0 ∨ ah = 1 ∨ ah = 2) (hk1 : 1 ≤ k) (hk9 : k ≤ 9) : ∀ (m i b : Nat) (σ : St), 10 - i < m → i ≤ 10 → b ≤ 9 → RI σ L B st KD RD → ∃ τ, f_X6_strong_37 m dn ah (nI k) sh (nI b) (rnT L B dn ah (nI b) (2 * sh) k KD RD L) (nI i) σ = some (nI (blr (fun s => rnT L B dn ah (nI s) (2 * sh) k KD RD L) (10 - i) i b), τ) ∧ Mr σ τ := by
  intro m
  induction m with
  | zero => intro i b σ h; omega
  | succ m ih =>
    intro i b σ hm hi hb9 hR
    rw [f_X6_strong_37]
    by_cases he : i = 10
    · subst he
      rw [if_pos (by decide)]
      exact ⟨σ, rfl, Mr.rf⟩
    · obtain ⟨τ, e1, hM⟩ := m_strong_run hR (sh := sh) hd hah hk1 hk9 (nI i)
      rw [if_neg (show ¬ (10 : Int32) ≤ nI i from nI_ge (b := 10) (by omega) (by decide)), e1]
      unfold f_X6_strong_81 f_X6_strong_97
      obtain ⟨n, hn⟩ : ∃ n, 10 - i = n + 1 := ⟨9 - i, by omega⟩
      have e10 : 10 - (i + 1) = n := by omega
      rw [hn, blr]
      by_cases hc : rnT L B dn ah (nI b) (2 * sh) k KD RD L ≤ rnT L B dn ah (nI i) (2 * sh) k KD RD L
      · rw [if_pos hc, if_pos hc, if_pos hc, nI_1]
        obtain ⟨υ, e2, h2⟩ := ih (i + 1) b τ (by omega) (by omega) hb9 (hR.moved hM.Rl)
        rw [e10] at e2
        exact ⟨υ, e2, hM.tr h2⟩
      · rw [if_neg hc, if_neg hc, if_neg hc, nI_1]
        obtain ⟨υ, e2, h2⟩ := ih (i + 1) i τ (by omega) (by omega) (by omega) (hR.moved hM.Rl)
        rw [e10] at e2
        exact ⟨υ, e2, hM.tr h2⟩
theorem eq_strong {σ : St} (h : JJ σ) (d a k s : Int32) : EQI (f_X5_strong d a k s) (f_X6_strong d a k s) σ := by
  unfold EQI f_X5_strong f_X6_strong f_X5_refusedBad f_X6_bad
  simp only [e_isRun, m_isRun, m_inI s 0 1 0 1 rfl rfl, bd_s, if10]
  by_cases h1 : QR d a k
  · by_cases h2 : 0 ≤ s ∧ s ≤ 1
    · simp only [if_pos h1, if_pos h2, if_pos (And.intro h1 h2)]
      obtain ⟨hd, hah, n, hn1, hn9, rfl⟩ := QR.get h1
      obtain ⟨L, B, st, KD, RD, hri⟩ := h.ri
      obtain ⟨τ, e1, hT, hq, t6, t3⟩ := e_tell hri (ah := a) (sh := s) hd hn1 hn9
      have hT2 := hq.strg (nI 0)
      obtain ⟨τ2, e2, hs, -, -, -⟩ := e_go hT2
      obtain ⟨τ3, e3, hT3⟩ := e_strong_loop FU 1 0 _ τ2 (FU_lt (by omega)) (by decide) (by decide) (hT2.moved hs)
      have hTr : Tr σ τ3 := (hT.tr (Tr.pI.tr hs.Tr)).tr hT3
      have hr3 := hri.moved hTr.Rl
      obtain ⟨m, hm⟩ : ∃ m, FU = m + 1 := ⟨999, rfl⟩
      have hm8 : 9 < m := by
        have : FU = 1000 := rfl
        omega
      obtain ⟨υ, e4, hM⟩ := m_strong_run hr3 (sh := s) hd hah hn1 hn9 (nI 0)
      obtain ⟨υ2, e5, hM2⟩ := m_strong_loop (sh := s) hd hah hn1 hn9 m 1 0 υ (by omega) (by decide) (by decide) (hr3.moved hM.Rl)
      obtain ⟨t, ht, et⟩ := rnT_b (B := B) (dn := d) (ah := a) (st := nI 0) (KD := KD) hri.2.1 hn1 hri.2.2.2.2.2.2.1 (mo_b (i01 h2))
      have hf : ¬ (1000000 : Int32) ≤ rnT L B d a (nI 0) (2 * s) n KD RD L := by rw [et]; exact far_gt ht
      refine ⟨nI (blr (fun q => rnT L B d a (nI q) (2 * s) n KD RD L) (10 - 1) 1 0), τ3, υ2, ?_, ?_, h.moved (hTr.Rl.tr (hM.Rl.tr hM2.Rl))⟩
      · rw [e1, bv_s, show pI τ 61 4 0 = pI τ 61 4 (nI 0) from rfl, e2, bd_s]
        exact e3
      · rw [hm, f_X6_strong_37, if_neg (by decide), show (0 : Int32) = nI 0 from rfl, e4, if_neg hf]
        unfold f_X6_strong_81 f_X6_strong_97
        rw [if_neg hf, show nI 0 + 1 = nI 1 from rfl]
        exact e5
    · simp only [if_pos h1, if_neg h2, if_neg (fun q : QR d a k ∧ (0 ≤ s ∧ s ≤ 1) => h2 q.2)]
      exact ⟨_, _, _, rfl, rfl, h.bad⟩
  · simp only [if_neg h1, if_neg (fun q : QR d a k ∧ (0 ≤ s ∧ s ≤ 1) => h1 q.1)]
    exact ⟨_, _, _, rfl, rfl, h.bad⟩
