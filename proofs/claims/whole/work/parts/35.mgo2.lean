theorem m_123 {rc : Int32 → Int32 → Int32 → Int32 → Int32 → Int32 → St → Option (Int32 × St)} {dn ah mo kd t0 w : Int32} {rt : Bool} {k j : Nat} {σ : St} (hj : j < 8) (hk1 : 1 ≤ k) (hk9 : k ≤ 9) (hah : ah = 1 ∨ ah = 2) (hw : j ≠ 0 → f_X6_roadFrom dn (nI j - 1) σ = some (w, σ)) : f_X6_goRun_123 rc dn ah (nI k) mo (nI j) kd (if rt then 1 else 0) t0 σ = f_X6_goRun_202 rc dn ah (nI k) mo (nI j) kd (if rt then 1 else 0) (zA ah w k j (sA σ 81) (sA σ 84)) σ := by
  unfold f_X6_goRun_123 f_X6_goRun_180 zA
  rw [if_neg (by rcases hah with rfl | rfl <;> decide)]
  by_cases h0 : j = 0
  · subst h0
    rw [if_pos (by decide), if_pos rfl]
  · have e1 : nI j - 1 = nI (j - 1) := by rw [show (1 : Int32) = nI 1 from rfl, pk_sub (by omega)]
    have hwk : f_X6_walk w ah σ = some (if ah = 2 then (w + 1) / 2 else w, σ) := by
      unfold f_X6_walk
      by_cases h2 : ah = 2
      · rw [if_pos h2, if_pos h2]
      · rw [if_neg h2, if_neg h2]
    have h182 : ∀ x : Int32, f_X6_goRun_182 rc dn ah (nI k) mo (nI j) kd (if rt then 1 else 0) x σ = f_X6_goRun_202 rc dn ah (nI k) mo (nI j) kd (if rt then 1 else 0) (x + (if ah = 2 then (w + 1) / 2 else w)) σ := by
      intro x
      unfold f_X6_goRun_182
      rw [hw h0, bd_s, hwk, bd_s]
    rw [if_neg (nI_nle (by omega) (by omega)), if_neg h0, e1, nI_c (show j - 1 < 2 ^ 31 by omega), gd_ok (by
      rintro (h | h)
      · exact nI_pos (by omega) h
      · omega)]
    simp only [h182]
    by_cases h1 : j < k
    · rw [if_pos (nI_lt h1 (by omega)), if_pos h1]
    · rw [if_neg (nI_nlt (by omega) (by omega)), if_neg h1, pk_sub (show k ≤ j by omega), nI_c (show j - k < 2 ^ 31 by omega)]
      have g : ¬ (nI (j - k) < 0 ∨ 8 ≤ j - k) := by
        rintro (h | h)
        · exact nI_pos (by omega) h
        · omega
      rw [gd_ok g, gd_ok g]
      by_cases h2 : sA σ 81 (j - k) ≤ sA σ 84 (j - 1)
      · rw [if_pos h2, if_neg (Int32.not_lt.mpr h2)]
      · rw [if_neg h2, if_pos (Int32.not_le.mp h2)]
theorem m_78 {rc : Int32 → Int32 → Int32 → Int32 → Int32 → Int32 → St → Option (Int32 × St)} {dn ah mo kd w c st : Int32} {rt : Bool} {k j : Nat} {σ : St} (hj : j < 8) (hk1 : 1 ≤ k) (hk9 : k ≤ 9) (hah : ah = 0 ∨ ah = 1 ∨ ah = 2) (hst : sI σ 75 12 = st) (hw : ∀ τ, Ms σ τ → j ≠ 0 → f_X6_roadFrom dn (nI j - 1) τ = some (w, τ)) :
    ∃ τ, f_X6_goRun_78 rc dn ah (nI k) mo (nI j) kd (if rt then 1 else 0) c (nI j) σ = rc dn ah (nI k) mo (zI ah st kd rt c (zD ah st kd rt (zA ah w k j (sA σ 81) (sA σ 84))) + psd kd st + mo) (nI (j + 1)) τ ∧ Ms σ τ ∧
      (∀ n, sA τ 81 n = if n = j then c else sA σ 81 n) ∧ (∀ n, sA τ 82 n = if n = j then zI ah st kd rt c (zD ah st kd rt (zA ah w k j (sA σ 81) (sA σ 84))) else sA σ 82 n) ∧ (∀ n, sA τ 83 n = if n = j then zI ah st kd rt c (zD ah st kd rt (zA ah w k j (sA σ 81) (sA σ 84))) + psd kd st + mo else sA σ 83 n) ∧ (∀ n, sA τ 84 n = if n = j then zD ah st kd rt (zA ah w k j (sA σ 81) (sA σ 84)) else sA σ 84 n) ∧ (∀ n, sA τ 85 n = if n = j then zM ah kd rt c (zD ah st kd rt (zA ah w k j (sA σ 81) (sA σ 84))) else sA σ 85 n) := by
  have g : ¬ (nI j < 0 ∨ 8 ≤ j) := by
    rintro (h | h)
    · exact nI_pos (by omega) h
    · omega
  unfold f_X6_goRun_78 f_X6_goRun_122
  simp only [nI_c (show j < 2 ^ 31 by omega), gd_ok g, sA_self]
  generalize hσ0 : pA (pA (pA (pA σ 81 j c) 85 j 0) 84 j (-1)) 82 j c = σ0
  have hM0 : Ms σ σ0 := by
    rw [← hσ0]
    exact (((Ms.pA (by decide)).tr (Ms.pA (by decide))).tr (Ms.pA (by decide))).tr (Ms.pA (by decide))
  have hst0 : sI σ0 75 12 = st := (hM0.1 _ _).trans hst
  have a0 : ∀ a n, sA σ0 a n = if a = 82 ∧ n = j then c else if a = 84 ∧ n = j then -1 else if a = 85 ∧ n = j then 0 else if a = 81 ∧ n = j then c else sA σ a n := by
    intro a n
    rw [← hσ0]
    simp only [sA_pA]
  by_cases ha : ah = 0
  · subst ha
    rw [if_pos rfl]
    have e123 : ∀ t : Int32, f_X6_goRun_123 rc dn 0 (nI k) mo (nI j) kd (if rt then 1 else 0) t σ0 = f_X6_goRun_331 rc dn 0 (nI k) mo (nI j) kd t σ0 := by
      intro t
      unfold f_X6_goRun_123
      rw [if_pos (by decide)]
    have e1 : (if (if rt = true then (1 : Int32) else 0) = 0 then f_X6_goRun_123 rc dn 0 (nI k) mo (nI j) kd (if rt then 1 else 0) 1 σ0 else f_X6_goRun_123 rc dn 0 (nI k) mo (nI j) kd (if rt then 1 else 0) 0 σ0) = f_X6_goRun_331 rc dn 0 (nI k) mo (nI j) kd (if rt then 0 else 1) σ0 := by
      simp only [e123]
      cases rt <;> rfl
    rw [e1, m_331 hj]
    cases rt
    · rw [if_neg (by decide), m_371 hj]
      refine ⟨pA (pA (pA σ0 85 j (sA σ0 85 j + 1)) 82 j (sA σ0 81 j + rdy kd (sI σ0 75 12))) 83 j (sA (pA (pA σ0 85 j (sA σ0 85 j + 1)) 82 j (sA σ0 81 j + rdy kd (sI σ0 75 12))) 82 j + psd kd (sI (pA (pA σ0 85 j (sA σ0 85 j + 1)) 82 j (sA σ0 81 j + rdy kd (sI σ0 75 12))) 75 12) + mo), ?_, ?_, ?_⟩
      · simp only [sA_self, sI_pA, hst0, a0]
        simp [zI]
      · exact ((hM0.tr (Ms.pA (by decide))).tr (Ms.pA (by decide))).tr (Ms.pA (by decide))
      · refine ⟨?_, ?_, ?_, ?_, ?_⟩
        all_goals
          intro n
          simp only [sA_pA, sI_pA, hst0, a0]
          by_cases hn : n = j
          · subst hn; simp [zI, zM, zD]
          · simp [hn]
    · rw [if_pos rfl, m_371 hj]
      refine ⟨pA σ0 83 j (sA σ0 82 j + psd kd (sI σ0 75 12) + mo), ?_, ?_, ?_⟩
      · simp only [hst0, a0]
        simp [zI]
      · exact hM0.tr (Ms.pA (by decide))
      · refine ⟨?_, ?_, ?_, ?_, ?_⟩
        all_goals
          intro n
          simp only [sA_pA, sI_pA, hst0, a0]
          by_cases hn : n = j
          · subst hn; simp [zI, zM, zD]
          · simp [hn]
  · have hah2 : ah = 1 ∨ ah = 2 := hah.elim (fun h => absurd h ha) id
    rw [if_neg ha, m_123 hj hk1 hk9 hah2 (w := w) (hw σ0 hM0), m_202 hj, m_287 hj, m_331 hj]
    have za : zA ah w k j (sA σ0 81) (sA σ0 84) = zA ah w k j (sA σ 81) (sA σ 84) := by
      refine zA_c hk1 (fun n hn => ?_) (fun n hn => ?_)
      · rw [a0]; simp [show n ≠ j by omega]
      · rw [a0]; simp [show n ≠ j by omega]
    rw [za, hst0]
    generalize zA ah w k j (sA σ 81) (sA σ 84) = ac
    have hd1 : zD ah st kd rt ac = ac + (if rt = true then 0 else rdy kd st) := by unfold zD; rw [if_neg ha]
    rw [← hd1]
    generalize zD ah st kd rt ac = dd
    have c1 : sA σ0 81 j = c := by rw [a0]; simp
    rw [c1]
    generalize hσ1 : pA (pA σ0 84 j dd) 85 j (if rt = true then 0 else 1) = σ1
    have hM1 : Ms σ σ1 := by rw [← hσ1]; exact (hM0.tr (Ms.pA (by decide))).tr (Ms.pA (by decide))
    have a1 : ∀ a n, sA σ1 a n = if a = 85 ∧ n = j then (if rt = true then 0 else 1) else if a = 84 ∧ n = j then dd else if a = 82 ∧ n = j then c else if a = 81 ∧ n = j then c else sA σ a n := by
      intro a n
      rw [← hσ1]
      simp only [sA_pA, a0]
      by_cases hn : n = j
      · subst hn
        by_cases q1 : a = 85
        · simp [q1]
        · by_cases q2 : a = 84
          · simp [q2]
          · simp [q1, q2]
      · simp [hn]
    have hst1 : sI σ1 75 12 = st := (hM1.1 _ _).trans hst
    have b1 : sA σ1 81 j = c := by rw [a1]; simp
    have b2 : sA σ1 84 j = dd := by rw [a1]; simp
    rw [b1, b2]
    have hzi : zI ah st kd rt c dd = if zK kd rt c dd then c + rdy kd st else (if c < dd then dd else c) := by unfold zI; rw [if_neg ha]
    have hzm : zM ah kd rt c dd = if zK kd rt c dd then 2 else (if rt then 0 else 1) := by unfold zM; rw [if_neg ha]
    rw [hzi, hzm]
    generalize hmx : (if c < dd then dd else c) = mx
    by_cases hz : zK kd rt c dd = true
    · have hrt : rt = false := by
        unfold zK at hz
        cases rt
        · rfl
        · simp at hz
      rw [if_pos hz, if_pos hz, if_pos hz, if_neg (by decide), m_371 hj]
      refine ⟨pA (pA (pA (pA σ1 82 j mx) 85 j (sA (pA σ1 82 j mx) 85 j + 1)) 82 j (sA (pA σ1 82 j mx) 81 j + rdy kd (sI (pA σ1 82 j mx) 75 12))) 83 j (sA (pA (pA (pA σ1 82 j mx) 85 j (sA (pA σ1 82 j mx) 85 j + 1)) 82 j (sA (pA σ1 82 j mx) 81 j + rdy kd (sI (pA σ1 82 j mx) 75 12))) 82 j + psd kd (sI (pA (pA (pA σ1 82 j mx) 85 j (sA (pA σ1 82 j mx) 85 j + 1)) 82 j (sA (pA σ1 82 j mx) 81 j + rdy kd (sI (pA σ1 82 j mx) 75 12))) 75 12) + mo), ?_, ?_, ?_⟩
      · simp only [sA_self, sI_pA, sA_pA, hst1, a1]
        simp
      · exact (((hM1.tr (Ms.pA (by decide))).tr (Ms.pA (by decide))).tr (Ms.pA (by decide))).tr (Ms.pA (by decide))
      · refine ⟨?_, ?_, ?_, ?_, ?_⟩
        all_goals
          intro n
          simp only [sA_pA, sI_pA, hst1, a1, hrt]
          by_cases hn : n = j
          · subst hn; simp
          · simp [hn]
    · rw [if_neg hz, if_neg hz, if_neg hz, if_pos rfl, m_371 hj]
      refine ⟨pA (pA σ1 82 j mx) 83 j (sA (pA σ1 82 j mx) 82 j + psd kd (sI (pA σ1 82 j mx) 75 12) + mo), ?_, ?_, ?_⟩
      · simp only [sA_self, sI_pA, hst1]
      · exact (hM1.tr (Ms.pA (by decide))).tr (Ms.pA (by decide))
      · refine ⟨?_, ?_, ?_, ?_, ?_⟩
        all_goals
          intro n
          simp only [sA_pA, sI_pA, hst1, a1]
          by_cases hn : n = j
          · subst hn; simp
          · simp [hn]
theorem m_loop {L B : Nat} {dn ah st mo : Int32} {k : Nat} {KD RD : Nat → Int32} (hd : dn = 0 ∨ dn = 1) (hah : ah = 0 ∨ ah = 1 ∨ ah = 2) (hk1 : 1 ≤ k) (hk9 : k ≤ 9) : ∀ (n j : Nat) (σ : St), L - j < n → j ≤ L → Mq σ L B st KD RD → Ag σ 81 82 83 84 85 j (rn L B dn ah st mo k KD RD j) →
    ∃ τ, f_X6_goRun_6 n dn ah (nI k) mo (rnT L B dn ah st mo k KD RD j) (nI j) σ = some (rnT L B dn ah st mo k KD RD L, τ) ∧ Ms σ τ ∧ Ag τ 81 82 83 84 85 L (rn L B dn ah st mo k KD RD L) := by
  intro n
  induction n with
  | zero => intro j σ h; omega
  | succ n ih =>
    intro j σ hn hj hM hA
    obtain ⟨hL, hL8, hst, hS, hK⟩ := id hM
    rw [f_X6_goRun_6, f_X6_locks, bd_s, hL]
    by_cases he : j = L
    · subst he
      rw [if_pos (nI_le (Nat.le_refl _) (by omega))]
      exact ⟨σ, rfl, Ms.rf, hA⟩
    · have hlt : j < L := by omega
      have hi : lk dn L j < L := lk_lt hlt
      rw [if_neg (nI_ge hlt (by omega)), m_lockAt hd hL hlt, bd_s, show (0 : Int32) = nI 0 from rfl, m_get (by omega), bd_s, show 6 + 3 * lk dn L j + 0 = 6 + 3 * lk dn L j from rfl, (hK _ hi).1, nI_c (show lk dn L j < 2 ^ 31 by omega), gd_ok (by
        rintro (h | h)
        · exact nI_pos (by omega) h
        · omega), hS _ hi]
      have e0 : (if nI (B / 2 ^ lk dn L j % 2) = dn then f_X6_goRun_49 (f_X6_goRun_6 n) dn ah (nI k) mo (rnT L B dn ah st mo k KD RD j) (nI j) (KD (lk dn L j)) 1 σ else f_X6_goRun_49 (f_X6_goRun_6 n) dn ah (nI k) mo (rnT L B dn ah st mo k KD RD j) (nI j) (KD (lk dn L j)) 0 σ) = f_X6_goRun_49 (f_X6_goRun_6 n) dn ah (nI k) mo (rnT L B dn ah st mo k KD RD j) (nI j) (KD (lk dn L j)) (if rtb dn B (lk dn L j) then 1 else 0) σ := by
        unfold rtb
        by_cases h : nI (B / 2 ^ lk dn L j % 2) = dn
        · rw [if_pos h, if_pos (by simpa using h)]
        · rw [if_neg h, if_neg (by simpa using h)]
      rw [show (nI 0 : Int32) = 0 from rfl, e0]
      have hroad : ∀ τ, Ms σ τ → j ≠ 0 → f_X6_roadFrom dn (nI j - 1) τ = some (RD (rb dn L j), τ) := by
        intro τ hτ h0
        have hMτ := hM.moved hτ
        rw [m_roadFrom hd hMτ.1 hL8 h0 hlt, (hMτ.2.2.2.2 _ (rb_lt hlt)).2]
      have e1 : f_X6_goRun_49 (f_X6_goRun_6 n) dn ah (nI k) mo (rnT L B dn ah st mo k KD RD j) (nI j) (KD (lk dn L j)) (if rtb dn B (lk dn L j) then 1 else 0) σ = f_X6_goRun_78 (f_X6_goRun_6 n) dn ah (nI k) mo (nI j) (KD (lk dn L j)) (if rtb dn B (lk dn L j) then 1 else 0) (zC (RD (rb dn L j)) j (sA σ 83)) (nI j) σ := by
        unfold f_X6_goRun_49 zC
        by_cases h0 : j = 0
        · subst h0; rw [if_pos nI_0, if_pos rfl]
        · rw [if_neg (nI_ne0 (by omega) (by omega)), if_neg h0, hroad σ Ms.rf h0, bd_s, (hA (j - 1) (by omega)).2.2.1]
          unfold rnT
          rw [if_neg h0]
      rw [e1]
      obtain ⟨τ, e2, hMs, t1, t2, t3, t4, t5⟩ := m_78 (rc := f_X6_goRun_6 n) (mo := mo) (kd := KD (lk dn L j)) (c := zC (RD (rb dn L j)) j (sA σ 83)) (rt := rtb dn B (lk dn L j)) (show j < 8 by omega) hk1 hk9 hah hst hroad
      obtain ⟨hA', ho, hm⟩ := Ag.step (τ := τ) hk1 hA rfl rfl (fun _ => rfl) rfl rfl rfl rfl rfl t1 t2 t3 t4 t5
      rw [e2]
      have eT : rnT L B dn ah st mo k KD RD (j + 1) = zI ah st (KD (lk dn L j)) (rtb dn B (lk dn L j)) (zC (RD (rb dn L j)) j (sA σ 83)) (zD ah st (KD (lk dn L j)) (rtb dn B (lk dn L j)) (zA ah (RD (rb dn L j)) k j (sA σ 81) (sA σ 84))) + psd (KD (lk dn L j)) st + mo := by
        unfold rnT; rw [if_neg (by omega), Nat.add_sub_cancel, ho]
      rw [← eT]
      obtain ⟨υ, e3, hM2, hA2⟩ := ih (j + 1) τ (by omega) (by omega) (hM.moved hMs) hA'
      exact ⟨υ, e3, hMs.tr hM2, hA2⟩
theorem m_go {L B : Nat} {dn ah st mo : Int32} {k : Nat} {KD RD : Nat → Int32} {σ : St} (hd : dn = 0 ∨ dn = 1) (hah : ah = 0 ∨ ah = 1 ∨ ah = 2) (hk1 : 1 ≤ k) (hk9 : k ≤ 9) (hM : Mq σ L B st KD RD) : ∃ τ, f_X6_goRun dn ah (nI k) mo σ = some (rnT L B dn ah st mo k KD RD L, τ) ∧ Ms σ τ ∧ Ag τ 81 82 83 84 85 L (rn L B dn ah st mo k KD RD L) := by
  unfold f_X6_goRun
  have hL8 := hM.2.1
  exact m_loop hd hah hk1 hk9 FU 0 σ (FU_lt (by omega)) (Nat.zero_le L) hM (fun i hi => absurd hi (Nat.not_lt_zero i))
