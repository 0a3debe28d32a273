theorem e_sb {τ : St} {dn : Int32} {L : Nat} (hd : dn = 0 ∨ dn = 1) (hL8 : L ≤ 8) (h0 : sI τ 61 0 = dn) (hL : sI τ 1 0 = nI L) : f_X4_standsBehind τ = some (nI (if dn = 0 then 2 ^ L - 1 else 0), τ) := by
  unfold f_X4_standsBehind f_X0_allLocks_1
  rw [h0, hL, all_1 L hL8]
  rcases hd with rfl | rfl
  · rw [if_pos rfl, if_pos rfl, bd_s]
  · rw [if_neg (by decide), if_neg (by decide)]; rfl
theorem Tq.stands {σ : St} {L B : Nat} {dn ah st mo : Int32} {k : Nat} {KD RD : Nat → Int32} (h : Tq σ L B dn ah st mo k KD RD) {C : Nat} (hC : C < 256) : Tq (pI σ 61 5 (nI C)) L C dn ah st mo k KD RD := by
  obtain ⟨q1, q2, q3, q4, q5, q6, q7, q8, q9, q10, q11, q12, q13⟩ := h
  exact ⟨q1, q2, rfl, hC, q5, q6, q7, q8, q9, q10, q11, q12, q13⟩
theorem m_runNow2 {σ : St} {L B : Nat} {st : Int32} {KD RD : Nat → Int32} (h : RI σ L B st KD RD) {dn ah sh : Int32} {k : Nat} (hd : dn = 0 ∨ dn = 1) (hah : ah = 0 ∨ ah = 1 ∨ ah = 2) (hk1 : 1 ≤ k) (hk9 : k ≤ 9) : ∃ τ, f_X6_runNow dn ah (nI k) sh σ = some (rnT L B dn ah st (2 * sh) k KD RD L, τ) ∧ Mr σ τ ∧ sI τ 75 12 = st := by
  obtain ⟨τ, e, hm, ha⟩ := m_go (mo := 2 * sh) hd hah hk1 hk9 h.mq
  unfold f_X6_runNow
  rw [m_layHand, bv_s, e, bd_s]
  exact ⟨τ, rfl, (Mr.hand σ).tr hm.Mr, (hm.1 75 12).trans h.2.2.2.2.2.2.2.2.1⟩
theorem all_lt {dn : Int32} {L : Nat} (hL8 : L ≤ 8) : (if dn = 0 then 2 ^ L - 1 else 0) < 256 := by
  have := two_le hL8
  have := Nat.two_pow_pos L
  split <;> omega
theorem all_bit {dn : Int32} {L i : Nat} (hd : dn = 0 ∨ dn = 1) (hL8 : L ≤ 8) (hi : i < L) : nI ((if dn = 0 then 2 ^ L - 1 else 0) / 2 ^ i % 2) = 1 - dn := by
  rcases hd with rfl | rfl
  · rw [if_pos rfl, all_2 L hL8 i (by omega), if_pos hi]; rfl
  · rw [if_neg (by decide), Nat.zero_div]; rfl
theorem m_share_loop {σ : St} {F : Nat → Int32} {dn ah x x5 x6 st : Int32} {k L : Nat} {KD RD : Nat → Int32} (hd : dn = 0 ∨ dn = 1) (hah : ah = 0 ∨ ah = 1 ∨ ah = 2) (hk1 : 1 ≤ k) (hk9 : k ≤ 9) (h0 : sA σ 76 0 = nI L) (hL8 : L ≤ 8) (hst : sI σ 75 12 = st) (hK : ∀ i, i < L → sA σ 76 (6 + 3 * i) = KD i ∧ sA σ 76 (8 + 3 * i) = RD i) : ∀ (n j : Nat), 8 - j < n → j ≤ 8 → ∃ τ, f_X6_share_60 n dn ah (nI k) x x5 x6 (nI j) (sR σ 80 (fun m => if m < j then 1 - dn else F m)) = some ((if x6 ≤ x then x else x6) + rnT L (if dn = 0 then 2 ^ L - 1 else 0) dn ah st 0 k KD RD L - x5, τ) ∧ Mr σ τ := by
  intro n
  induction n with
  | zero => intro j h; omega
  | succ n ih =>
    intro j hn hj
    rw [f_X6_share_60]
    by_cases he : j = 8
    · subst he
      have hq : Mq (sR σ 80 (fun m => if m < 8 then 1 - dn else F m)) L (if dn = 0 then 2 ^ L - 1 else 0) st KD RD := by
        refine ⟨h0, hL8, hst, fun i hi => ?_, fun i hi => ?_⟩
        · rw [sR_at, if_pos (by omega), all_bit hd hL8 hi]
        · rw [sR_o _ _ _ _ _ (by decide), sR_o _ _ _ _ _ (by decide)]; exact hK i hi
      obtain ⟨τ, e, hm, -⟩ := m_go (mo := 0) hd hah hk1 hk9 hq
      rw [if_pos (by decide), e, bd_s]
      refine ⟨τ, ?_, Mr.tr (τ := sR σ 80 (fun m => if m < 8 then 1 - dn else F m)) ⟨fun k b h => rfl, fun _ _ => rfl, fun k h b => sR_o _ _ _ _ _ (by omega)⟩ hm.Mr⟩
      unfold f_X6_share_107
      by_cases hc : x6 ≤ x
      · rw [if_pos hc, if_pos hc]
      · rw [if_neg hc, if_neg hc]
    · rw [if_neg (show ¬ (8 : Int32) ≤ nI j from nI_ge (b := 8) (by omega) (by decide)), nI_c (by omega), gd_ok (by
        rintro (q | q)
        · exact nI_pos (by omega) q
        · omega), sR_pA, nI_1]
      have e : upd (fun m => if m < j then 1 - dn else F m) j (1 - dn) = (fun m => if m < j + 1 then 1 - dn else F m) := by
        funext m
        unfold upd
        dsimp only
        by_cases h1 : m = j
        · rw [if_pos h1, if_pos (by omega)]
        · rw [if_neg h1]
          by_cases h2 : m < j
          · rw [if_pos h2, if_pos (by omega)]
          · rw [if_neg h2, if_neg (by omega)]
      rw [e]
      exact ih (j + 1) (by omega) (by omega)
theorem eq_share {σ : St} (h : JJ σ) (d a k x : Int32) : EQI (f_X5_share d a k x) (f_X6_share d a k x) σ := by
  unfold EQI f_X5_share f_X6_share f_X5_refusedBadFar f_X6_bad
  simp only [e_isRun, e_within, m_isRun, m_inI x 0 60 0 60 rfl rfl, bd_s, if10]
  by_cases h1 : QR d a k
  · by_cases h3 : 0 ≤ x ∧ x ≤ 60
    · simp only [if_pos h1, if_pos h3, if_pos (show QR d a k ∧ ((0 : Int32) ≤ 0 ∧ (0 : Int32) ≤ 1) from ⟨h1, by decide⟩)]
      obtain ⟨hd, hah, n, hn1, hn9, rfl⟩ := QR.get h1
      obtain ⟨L, B, st, KD, RD, hri⟩ := h.ri
      have hL8 := hri.2.1
      obtain ⟨τ, e1, hT, hq, ha, h7, h8, t6, t3⟩ := c_run hri (ah := a) (sh := 0) hd hn1 hn9
      have hsb := e_sb hd hL8 hq.2.2.2.2.1 hq.1
      have hq2 := hq.stands (all_lt (dn := d) hL8)
      obtain ⟨τ2, e2, hs2, -⟩ := e_go hq2
      have hTr2 : Tr σ τ2 := hT.tr (Tr.pI.tr hs2.Tr)
      obtain ⟨τ3, e3, hT3, hq3, r6, r3⟩ := e_tell (hri.moved hTr2.Rl) (ah := a) (sh := 0) hd hn1 hn9
      have hq4 : Tq (pI τ3 61 6 3) L B d a st 3 n KD RD := by
        obtain ⟨z1, z2, z3, z4, z5, z6, z7, z8, z9, z10, z11, z12, z13⟩ := hq3
        refine ⟨z1, z2, z3, z4, z5, z6, z7, z8, z9, z10, z11, ?_, z13⟩
        show (3 : Int32) + 2 * sI τ3 61 3 = 3
        rw [r3]; rfl
      obtain ⟨τ4, e4, hs4, -⟩ := e_go hq4
      have hTr4 : Tr σ τ4 := (hTr2.tr hT3).tr (Tr.pI.tr hs4.Tr)
      have hri4 := hri.moved hTr4.Rl
      obtain ⟨υ1, e5, hm5, -⟩ := m_go (mo := 3) hd hah hn1 hn9 hri4.mq
      have hM5 : Mr τ4 υ1 := (Mr.hand τ4).tr hm5.Mr
      have hri5 := hri4.moved hM5.Rl
      obtain ⟨υ2, e6, hM6, st6⟩ := m_runNow2 hri5 (sh := 0) hd hah hn1 hn9
      have hri6 := hri5.moved hM6.Rl
      obtain ⟨υ3, e7, hM7⟩ := m_share_loop (F := sA υ2 80) (x := x) (x5 := x + rnT L B d a st 3 n KD RD L) (x6 := rnT L B d a st (2 * 0) n KD RD L) hd hah hn1 hn9 hri6.2.2.2.2.2.2.2.1 hL8 st6 hri6.2.2.2.2.2.2.2.2.2.2 FU 0 (FU_lt (by omega)) (by omega)
      have e8 : (fun m => if m < 0 then 1 - d else sA υ2 80 m) = sA υ2 80 := by
        funext m
        rw [if_neg (Nat.not_lt_zero m)]
      rw [e8, sR_self] at e7
      have emax : (if rnT L B d a st (2 * 0) n KD RD L ≤ x then x else rnT L B d a st (2 * 0) n KD RD L) = (if rnT L B d a st (2 * 0) n KD RD L < x then x else rnT L B d a st (2 * 0) n KD RD L) := by
        by_cases c1 : rnT L B d a st (2 * 0) n KD RD L < x
        · rw [if_pos c1, if_pos (Int32.le_of_lt c1)]
        · rw [if_neg c1]
          by_cases c2 : rnT L B d a st (2 * 0) n KD RD L ≤ x
          · rw [if_pos c2]
            exact Int32.le_antisymm (Int32.not_lt.mp c1) c2
          · rw [if_neg c2]
      refine ⟨((if rnT L B d a st (2 * 0) n KD RD L < x then x else rnT L B d a st (2 * 0) n KD RD L) + rnT L (if d = 0 then 2 ^ L - 1 else 0) d a st 0 n KD RD L) - (x + rnT L B d a st 3 n KD RD L), τ4, υ3, ?_, ?_, h.moved (hTr4.Rl.tr ((hM5.tr (hM6.tr hM7)).Rl))⟩
      · rw [e1, hsb, bd_s, e2, bd_s, e3, bv_s, e4, bd_s]
        rfl
      · rw [m_layHand, bv_s, e5, bd_s, e6, bd_s]
        rw [emax] at e7
        exact e7
    · simp only [if_pos h1, if_neg h3, if_pos (show QR d a k ∧ ((0 : Int32) ≤ 0 ∧ (0 : Int32) ≤ 1) from ⟨h1, by decide⟩)]
      exact ⟨_, _, _, rfl, rfl, h.bad⟩
  · simp only [if_neg h1, if_neg (fun q : QR d a k ∧ ((0 : Int32) ≤ 0 ∧ (0 : Int32) ≤ 1) => h1 q.1)]
    exact ⟨_, _, _, rfl, rfl, h.bad⟩
