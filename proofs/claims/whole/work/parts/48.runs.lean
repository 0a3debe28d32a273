/-! what a run reads, on both sides -/
def RI (σ : St) (L B : Nat) (st : Int32) (KD RD : Nat → Int32) : Prop := sI σ 1 0 = nI L ∧ L ≤ 8 ∧ sI σ 1 2 = nI B ∧ B < 2 ^ L ∧ sI σ 1 1 = st ∧ (∀ i, i < L → sA σ 3 i = KD i ∧ sA σ 5 i = RD i) ∧ (∀ i, i < L → ∃ m, m ≤ 20 ∧ RD i = nI m) ∧ sA σ 76 0 = nI L ∧ sA σ 76 1 = st ∧ (∀ i, i < 8 → sA σ 76 (7 + 3 * i) = nI (B / 2 ^ i % 2)) ∧ ∀ i, i < L → sA σ 76 (6 + 3 * i) = KD i ∧ sA σ 76 (8 + 3 * i) = RD i
theorem JJ.ri {σ : St} (h : JJ σ) : ∃ L B st KD RD, RI σ L B st KD RD := by
  obtain ⟨L, rd, un, hL8, hrd6, hun, q0, b0, b1, b2, b3, q5, b4, q6, b5, hk, ⟨B, hB, hB2, hB3⟩, hr, hu⟩ := h.1.x
  exact ⟨L, B, sI σ 1 1, sA σ 3, sA σ 5, q0, hL8, hB, hB2, rfl, fun i hi => ⟨rfl, rfl⟩, fun i hi => (hk i hi).2.2, b0, b1, hB3, fun i hi => ⟨(hk i hi).1, (hk i hi).2.1⟩⟩
theorem RI.moved {σ τ : St} {L B : Nat} {st : Int32} {KD RD : Nat → Int32} (h : RI σ L B st KD RD) (hR : Rl σ τ) : RI τ L B st KD RD := by
  obtain ⟨h1, h2, h3, h4, h5, h6, h7, h8, h9, h10, h11⟩ := h
  have e1 := (hR.1 1 (by decide)).1
  have e3 := (hR.1 3 (by decide)).2.2
  have e5 := (hR.1 5 (by decide)).2.2
  have e76 := hR.2.2.2.2.2.1 76 (by decide) (by decide)
  exact ⟨(e1 0).trans h1, h2, (e1 2).trans h3, h4, (e1 1).trans h5, fun i hi => ⟨(e3 i).trans (h6 i hi).1, (e5 i).trans (h6 i hi).2⟩, h7, (e76 0).trans h8, (e76 1).trans h9, fun i hi => (e76 _).trans (h10 i hi), fun i hi => ⟨(e76 _).trans (h11 i hi).1, (e76 _).trans (h11 i hi).2⟩⟩
theorem RI.b8 {σ : St} {L B : Nat} {st : Int32} {KD RD : Nat → Int32} (h : RI σ L B st KD RD) : B < 256 := Nat.lt_of_lt_of_le h.2.2.2.1 (two_le h.2.1)
/-- cells of the Trip alone -/
def Tr (σ τ : St) : Prop := (∀ k b, k ≠ 61 → sI τ k b = sI σ k b) ∧ (∀ k b, sL τ k b = sL σ k b) ∧ ∀ k, ¬ (62 ≤ k ∧ k ≤ 71) → ∀ b, sA τ k b = sA σ k b
theorem Tr.Rl {σ τ : St} (h : Tr σ τ) : Rl σ τ := ⟨fun k hk => ⟨fun b => h.1 k b (by omega), fun b => h.2.1 k b, fun b => h.2.2 k (by omega) b⟩, h.1 _ _ (by decide), fun b => h.2.2 _ (by decide) b, h.1 _ _ (by decide), fun b => h.2.1 _ b, fun k h1 h2 b => h.2.2 k (by omega) b, fun b => h.2.2 _ (by decide) b⟩
theorem Tr.rf {σ : St} : Tr σ σ := ⟨fun _ _ _ => rfl, fun _ _ => rfl, fun _ _ _ => rfl⟩
theorem Tr.tr {σ τ υ : St} (h1 : Tr σ τ) (h2 : Tr τ υ) : Tr σ υ := ⟨fun k b h => (h2.1 k b h).trans (h1.1 k b h), fun k b => (h2.2.1 k b).trans (h1.2.1 k b), fun k h b => (h2.2.2 k h b).trans (h1.2.2 k h b)⟩
theorem Ts.Tr {σ τ : St} (h : Ts σ τ) : Tr σ τ := ⟨h.1, h.2.2.1, h.2.2.2⟩
theorem Tr.pI {σ : St} {j : Nat} {v : Int32} : Tr σ (pI σ 61 j v) := ⟨fun k b h => by rw [sI_pI, if_neg (fun q => h q.1)], fun _ _ => rfl, fun _ _ _ => rfl⟩
theorem e_tell {σ : St} {L B : Nat} {st : Int32} {KD RD : Nat → Int32} (h : RI σ L B st KD RD) {dn ah sh : Int32} {k : Nat} (hd : dn = 0 ∨ dn = 1) (hk1 : 1 ≤ k) (hk9 : k ≤ 9) : ∃ τ, f_X4_tell dn ah (nI k) sh σ = some τ ∧ Tr σ τ ∧ Tq τ L B dn ah st (2 * sh) k KD RD ∧ sI τ 61 6 = 0 ∧ sI τ 61 3 = sh := by
  have hb := h.b8
  obtain ⟨h1, h2, h3, h4, h5, h6, h7, h8, h9, h10, h11⟩ := h
  refine ⟨pI (pI (pI (pI (pI (pI (pI σ 61 0 dn) 61 1 ah) 61 2 (nI k)) 61 3 sh) 61 4 (sI σ 1 1)) 61 5 (sI σ 1 2)) 61 6 0, rfl, ?_, ⟨h1, h2, h3, hb, rfl, hd, rfl, rfl, hk1, hk9, h5, ?_, h6⟩, rfl, rfl⟩
  · exact ((((((Tr.pI.tr Tr.pI).tr Tr.pI).tr Tr.pI).tr Tr.pI).tr Tr.pI).tr Tr.pI)
  · show (0 : Int32) + 2 * sh = 2 * sh
    rw [Int32.zero_add]
/-- tell and go -/
theorem c_run {σ : St} {L B : Nat} {st : Int32} {KD RD : Nat → Int32} (h : RI σ L B st KD RD) {dn ah sh : Int32} {k : Nat} (hd : dn = 0 ∨ dn = 1) (hk1 : 1 ≤ k) (hk9 : k ≤ 9) : ∃ τ, (∀ (γ : Type) (F : Int32 → St → Option γ), bv (f_X4_tell dn ah (nI k) sh σ) (fun σ1 => bd (f_X4_go σ1) F) = F (rnT L B dn ah st (2 * sh) k KD RD L) τ) ∧ Tr σ τ ∧ Tq τ L B dn ah st (2 * sh) k KD RD ∧ Ag τ 63 65 67 69 71 L (rn L B dn ah st (2 * sh) k KD RD L) ∧ sI τ 61 7 = rnT L B dn ah st (2 * sh) k KD RD L ∧ sI τ 61 8 = rnW L B dn ah st (2 * sh) k KD RD L ∧ sI τ 61 6 = 0 ∧ sI τ 61 3 = sh := by
  obtain ⟨τ, e1, hT, hq, t6, t3⟩ := e_tell h (ah := ah) (sh := sh) hd hk1 hk9
  obtain ⟨υ, e2, hs, ha, h7, h8⟩ := e_go hq
  refine ⟨υ, fun γ F => ?_, hT.tr hs.Tr, hq.moved hs, ha, h7, h8, (hs.2.1 6 (by decide)).trans t6, (hs.2.1 3 (by decide)).trans t3⟩
  rw [e1, bv_s, e2, bd_s]
theorem m_layHand_loop (σ : St) (F : Nat → Int32) : ∀ (n j : Nat), 8 - j < n → j ≤ 8 → f_X6_layHand_12 n (nI j) (sR σ 80 (fun m => if m < j then sA σ 76 (7 + 3 * m) else F m)) = some (sR σ 80 (fun m => if m < 8 then sA σ 76 (7 + 3 * m) else F m)) := by
  intro n
  induction n with
  | zero => intro j h; omega
  | succ n ih =>
    intro j hn hj
    rw [f_X6_layHand_12]
    by_cases he : j = 8
    · subst he
      rw [if_pos (by decide)]
    · rw [if_neg (show ¬ (8 : Int32) ≤ nI j from nI_ge (b := 8) (by omega) (by decide)), show (1 : Int32) = nI 1 from rfl, m_get (by omega), bd_s, nI_c (by omega), gd_ok (by
        rintro (q | q)
        · exact nI_pos (by omega) q
        · omega), sR_pA, sR_o _ _ _ _ _ (by decide), show nI j + nI 1 = nI (j + 1) from nI_1 j]
      have e : upd (fun m => if m < j then sA σ 76 (7 + 3 * m) else F m) j (sA σ 76 (6 + 3 * j + 1)) = (fun m => if m < j + 1 then sA σ 76 (7 + 3 * m) else F m) := by
        funext m
        unfold upd
        dsimp only
        by_cases h1 : m = j
        · rw [if_pos h1, if_pos (by omega), h1]
          congr 1; omega
        · rw [if_neg h1]
          by_cases h2 : m < j
          · rw [if_pos h2, if_pos (by omega)]
          · rw [if_neg h2, if_neg (by omega)]
      rw [e]
      exact ih (j + 1) (by omega) (by omega)
theorem m_layHand (σ : St) : f_X6_layHand σ = some (sR (pI σ 75 12 (sA σ 76 1)) 80 (fun m => if m < 8 then sA σ 76 (7 + 3 * m) else sA σ 80 m)) := by
  have h := m_layHand_loop (pI σ 75 12 (sA σ 76 1)) (sA σ 80) FU 0 (FU_lt (by omega)) (by omega)
  have e : (fun m => if m < 0 then sA (pI σ 75 12 (sA σ 76 1)) 76 (7 + 3 * m) else sA σ 80 m) = sA (pI σ 75 12 (sA σ 76 1)) 80 := by
    funext m
    rw [if_neg (Nat.not_lt_zero m)]
    rfl
  rw [e, sR_self] at h
  exact h
/-- what a run of the reference writes -/
def Mr (σ τ : St) : Prop := (∀ k b, (k ≠ 75 ∨ (b ≠ 12 ∧ b ≠ 13)) → sI τ k b = sI σ k b) ∧ (∀ k b, sL τ k b = sL σ k b) ∧ ∀ k, ¬ (80 ≤ k ∧ k ≤ 85) → ∀ b, sA τ k b = sA σ k b
theorem Mr.rf {σ : St} : Mr σ σ := ⟨fun _ _ _ => rfl, fun _ _ => rfl, fun _ _ _ => rfl⟩
theorem Mr.tr {σ τ υ : St} (h1 : Mr σ τ) (h2 : Mr τ υ) : Mr σ υ := ⟨fun k b h => (h2.1 k b h).trans (h1.1 k b h), fun k b => (h2.2.1 k b).trans (h1.2.1 k b), fun k h b => (h2.2.2 k h b).trans (h1.2.2 k h b)⟩
theorem Mr.Rl {σ τ : St} (h : Mr σ τ) : Rl σ τ := ⟨fun k hk => ⟨fun b => h.1 k b (by omega), fun b => h.2.1 k b, fun b => h.2.2 k (by omega) b⟩, h.1 _ _ (by decide), fun b => h.2.2 _ (by decide) b, h.1 _ _ (by decide), fun b => h.2.1 _ b, fun k h1 h2 b => h.2.2 k (by omega) b, fun b => h.2.2 _ (by decide) b⟩
theorem Ms.Mr {σ τ : St} (h : Ms σ τ) : Mr σ τ := ⟨fun k b _ => h.1 k b, h.2.1, fun k hk b => h.2.2 k (by omega) b⟩
theorem Mr.hand (σ : St) : Mr σ (sR (pI σ 75 12 (sA σ 76 1)) 80 (fun m => if m < 8 then sA σ 76 (7 + 3 * m) else sA σ 80 m)) := ⟨fun k b h => by rw [sR_I, sI_pI, if_neg (by omega)], fun _ _ => rfl, fun k h b => by rw [sR_o _ _ _ _ _ (by omega)]; rfl⟩
theorem RI.mq {σ : St} {L B : Nat} {st : Int32} {KD RD : Nat → Int32} (h : RI σ L B st KD RD) : Mq (sR (pI σ 75 12 (sA σ 76 1)) 80 (fun m => if m < 8 then sA σ 76 (7 + 3 * m) else sA σ 80 m)) L B st KD RD := by
  obtain ⟨h1, h2, h3, h4, h5, h6, h7, h8, h9, h10, h11⟩ := h
  refine ⟨h8, h2, h9, fun i hi => ?_, fun i hi => ?_⟩
  · rw [sR_at, if_pos (by omega)]; exact h10 i (by omega)
  · rw [sR_o _ _ _ _ _ (by decide), sR_o _ _ _ _ _ (by decide)]; exact h11 i hi
theorem m_runNow {σ : St} {L B : Nat} {st : Int32} {KD RD : Nat → Int32} (h : RI σ L B st KD RD) {dn ah sh : Int32} {k : Nat} (hd : dn = 0 ∨ dn = 1) (hah : ah = 0 ∨ ah = 1 ∨ ah = 2) (hk1 : 1 ≤ k) (hk9 : k ≤ 9) : ∃ τ, f_X6_runNow dn ah (nI k) sh σ = some (rnT L B dn ah st (2 * sh) k KD RD L, τ) ∧ Mr σ τ ∧ Ag τ 81 82 83 84 85 L (rn L B dn ah st (2 * sh) k KD RD L) ∧ sI τ 75 13 = sI σ 75 13 := by
  obtain ⟨τ, e, hm, ha⟩ := m_go (mo := 2 * sh) hd hah hk1 hk9 h.mq
  unfold f_X6_runNow
  rw [m_layHand, bv_s, e, bd_s]
  exact ⟨τ, rfl, (Mr.hand σ).tr hm.Mr, ha, (hm.1 75 13)⟩
abbrev QR (d a k : Int32) : Prop := (0 ≤ d ∧ d ≤ 1) ∧ (0 ≤ a ∧ a ≤ 2) ∧ (1 ≤ k ∧ k ≤ 9)
theorem e_isRun (d a k s : Int32) (σ : St) : f_X5_isRun d a k s σ = some (if QR d a k ∧ (0 ≤ s ∧ s ≤ 1) then 1 else 0, σ) := by
  unfold f_X5_isRun
  simp only [e_within, bd_s, if10]
  by_cases h1 : 0 ≤ d ∧ d ≤ 1
  · rw [if_pos h1]
    by_cases h2 : 0 ≤ a ∧ a ≤ 2
    · rw [if_pos h2]
      by_cases h3 : 1 ≤ k ∧ k ≤ 9
      · rw [if_pos h3]
        by_cases h4 : 0 ≤ s ∧ s ≤ 1
        · rw [if_pos h4, if_pos ⟨⟨h1, h2, h3⟩, h4⟩]
        · rw [if_neg h4, if_neg (fun q => h4 q.2)]
      · rw [if_neg h3, if_neg (fun q => h3 q.1.2.2)]
    · rw [if_neg h2, if_neg (fun q => h2 q.1.2.1)]
  · rw [if_neg h1, if_neg (fun q => h1 q.1.1)]
theorem m_isDown (d : Int32) (σ : St) : f_X6_isDown d σ = some (if 0 ≤ d ∧ d ≤ 1 then 1 else 0, σ) := by
  unfold f_X6_isDown
  rw [m_inI d 0 1 0 1 rfl rfl, bd_s, gb10]
theorem m_isRun (d a k : Int32) (σ : St) : f_X6_isRun d a k σ = some (if QR d a k then 1 else 0, σ) := by
  unfold f_X6_isRun
  simp only [m_isDown, m_inI a 0 2 0 2 rfl rfl, m_inI k 1 9 1 9 rfl rfl, bd_s, if10]
  by_cases h1 : 0 ≤ d ∧ d ≤ 1
  · rw [if_pos h1]
    by_cases h2 : 0 ≤ a ∧ a ≤ 2
    · rw [if_pos h2]
      by_cases h3 : 1 ≤ k ∧ k ≤ 9
      · rw [if_pos h3, if_pos ⟨h1, h2, h3⟩]
      · rw [if_neg h3, if_neg (fun q => h3 q.2.2)]
    · rw [if_neg h2, if_neg (fun q => h2 q.2.1)]
  · rw [if_neg h1, if_neg (fun q => h1 q.1)]
theorem e_isLed (d a s : Int32) (σ : St) : f_X5_isLedRun d a s σ = some (if (0 ≤ d ∧ d ≤ 1) ∧ (1 ≤ a ∧ a ≤ 2) ∧ (0 ≤ s ∧ s ≤ 1) then 1 else 0, σ) := by
  unfold f_X5_isLedRun
  rw [e_isRun, bd_s, if10]
  by_cases h : (0 ≤ d ∧ d ≤ 1) ∧ (1 ≤ a ∧ a ≤ 2) ∧ (0 ≤ s ∧ s ≤ 1)
  · rw [if_pos h, if_pos ⟨⟨h.1, ⟨Int32.le_trans (by decide) h.2.1.1, h.2.1.2⟩, by decide⟩, h.2.2⟩, if_neg (fun e => absurd h.2.1.1 (by rw [e]; decide))]
  · rw [if_neg h]
    by_cases h2 : QR d a 1 ∧ (0 ≤ s ∧ s ≤ 1)
    · rw [if_pos h2]
      by_cases h0 : a = 0
      · rw [if_pos h0]
      · exfalso
        obtain ⟨j, hj, rfl⟩ := i_of (n := 2) rfl h2.1.2.1
        exact h ⟨h2.1.1, ⟨nI_le (a := 1) (by
          rcases Nat.eq_zero_or_pos j with q | q
          · exact absurd (by rw [q]; rfl) h0
          · omega) (by omega), h2.1.2.1.2⟩, h2.2⟩
    · rw [if_neg h2]
theorem QR.get {d a k : Int32} (h : QR d a k) : (d = 0 ∨ d = 1) ∧ (a = 0 ∨ a = 1 ∨ a = 2) ∧ ∃ n, 1 ≤ n ∧ n ≤ 9 ∧ k = nI n := by
  obtain ⟨i, hi, rfl⟩ := i_of (n := 1) rfl h.1
  obtain ⟨j, hj, rfl⟩ := i_of (n := 2) rfl h.2.1
  obtain ⟨n, hn, rfl⟩ := i_of (x := k) (n := 9) rfl ⟨Int32.le_trans (by decide) h.2.2.1, h.2.2.2⟩
  refine ⟨?_, ?_, n, ?_, hn, rfl⟩
  · rcases (show i = 0 ∨ i = 1 by omega) with rfl | rfl
    · exact Or.inl rfl
    · exact Or.inr rfl
  · rcases (show j = 0 ∨ j = 1 ∨ j = 2 by omega) with rfl | rfl | rfl
    · exact Or.inl rfl
    · exact Or.inr (Or.inl rfl)
    · exact Or.inr (Or.inr rfl)
  · rcases Nat.eq_zero_or_pos n with q | q
    · subst q
      exact absurd h.2.2.1 (by decide)
    · exact q
theorem i01 {s : Int32} (h : 0 ≤ s ∧ s ≤ 1) : s = 0 ∨ s = 1 := by
  obtain ⟨i, hi, rfl⟩ := i_of (n := 1) rfl h
  rcases (show i = 0 ∨ i = 1 by omega) with rfl | rfl
  · exact Or.inl rfl
  · exact Or.inr rfl
theorem mo_b {s : Int32} (h : s = 0 ∨ s = 1) : ∃ m, m ≤ 10 ∧ 2 * s = nI m := by
  rcases h with rfl | rfl
  · exact ⟨0, by decide, rfl⟩
  · exact ⟨2, by decide, rfl⟩
