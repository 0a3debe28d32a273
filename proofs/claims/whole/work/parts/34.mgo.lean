/-! the reference's run -/
theorem m_get {i w : Nat} (h : 6 + 3 * i + w < 122) (σ : St) : f_X6_get (nI i) (nI w) σ = some (sA σ 76 (6 + 3 * i + w), σ) := by
  unfold f_X6_get
  have e : (6 : Int32) + 3 * nI i + nI w = nI (6 + 3 * i + w) := by
    rw [show (6 : Int32) = nI 6 from rfl, show (3 : Int32) = nI 3 from rfl, pk_mul, nI_add, nI_add]
  rw [e, nI_c (by omega), gd_ok]
  rintro (h1 | h1)
  · exact nI_pos (by omega) h1
  · omega
/-- what a run reads of the reference -/
def Mq (σ : St) (L B : Nat) (st : Int32) (KD RD : Nat → Int32) : Prop := sA σ 76 0 = nI L ∧ L ≤ 8 ∧ sI σ 75 12 = st ∧ (∀ i, i < L → sA σ 80 i = nI (B / 2 ^ i % 2)) ∧ ∀ i, i < L → sA σ 76 (6 + 3 * i) = KD i ∧ sA σ 76 (8 + 3 * i) = RD i
def Ms (σ τ : St) : Prop := (∀ k b, sI τ k b = sI σ k b) ∧ (∀ k b, sL τ k b = sL σ k b) ∧ ∀ k, ¬ (81 ≤ k ∧ k ≤ 85) → ∀ b, sA τ k b = sA σ k b
theorem Ms.rf {σ : St} : Ms σ σ := ⟨fun _ _ => rfl, fun _ _ => rfl, fun _ _ _ => rfl⟩
theorem Ms.tr {σ τ υ : St} (h1 : Ms σ τ) (h2 : Ms τ υ) : Ms σ υ := ⟨fun k b => (h2.1 k b).trans (h1.1 k b), fun k b => (h2.2.1 k b).trans (h1.2.1 k b), fun k h b => (h2.2.2 k h b).trans (h1.2.2 k h b)⟩
theorem Mq.moved {σ τ : St} {L B : Nat} {st : Int32} {KD RD : Nat → Int32} (h : Mq σ L B st KD RD) (hM : Ms σ τ) : Mq τ L B st KD RD :=
  ⟨(hM.2.2 _ (by decide) _).trans h.1, h.2.1, (hM.1 _ _).trans h.2.2.1, fun i hi => (hM.2.2 _ (by decide) _).trans (h.2.2.2.1 i hi), fun i hi => ⟨(hM.2.2 _ (by decide) _).trans (h.2.2.2.2 i hi).1, (hM.2.2 _ (by decide) _).trans (h.2.2.2.2 i hi).2⟩⟩
theorem Ms.pA {σ : St} {a j : Nat} {v : Int32} (h : 81 ≤ a ∧ a ≤ 85) : Ms σ (pA σ a j v) := ⟨fun _ _ => rfl, fun _ _ => rfl, fun k hk b => by rw [sA_pA, if_neg (fun q => hk (by rw [q.1]; exact h))]⟩
theorem m_lockAt {dn : Int32} (hd : dn = 0 ∨ dn = 1) {L j : Nat} {σ : St} (hL : sA σ 76 0 = nI L) (h : j < L) : f_X6_lockAt dn (nI j) σ = some (nI (lk dn L j), σ) := by
  unfold f_X6_lockAt lk f_X6_locks
  rcases hd with rfl | rfl
  · rw [if_neg (by decide), if_pos rfl]
  · rw [if_pos rfl, if_neg (by decide), bd_s, hL]
    have e : nI L - 1 - nI j = nI (L - 1 - j) := by
      rw [show (1 : Int32) = nI 1 from rfl, pk_sub (show 1 ≤ L by omega), pk_sub (by omega)]
    rw [e]
theorem m_roadFrom {dn : Int32} (hd : dn = 0 ∨ dn = 1) {L j : Nat} {σ : St} (hL : sA σ 76 0 = nI L) (hL8 : L ≤ 8) (h0 : j ≠ 0) (h : j < L) : f_X6_roadFrom dn (nI j - 1) σ = some (sA σ 76 (8 + 3 * rb dn L j), σ) := by
  unfold f_X6_roadFrom rb f_X6_locks
  have e1 : nI j - 1 = nI (j - 1) := by rw [show (1 : Int32) = nI 1 from rfl, pk_sub (by omega)]
  rcases hd with rfl | rfl
  · rw [if_neg (by decide), if_pos rfl, e1, show (2 : Int32) = nI 2 from rfl, m_get (by omega), bd_s]
    rw [show 6 + 3 * (j - 1) + 2 = 8 + 3 * (j - 1) by omega]
  · rw [if_pos rfl, if_neg (by decide), bd_s, hL, e1]
    have e : nI L - 2 - nI (j - 1) = nI (L - 1 - j) := by
      rw [show (2 : Int32) = nI 2 from rfl, pk_sub (show 2 ≤ L by omega), pk_sub (by omega)]
      congr 1; omega
    rw [e, show (2 : Int32) = nI 2 from rfl, m_get (by omega), bd_s]
    rw [show 6 + 3 * (L - 1 - j) + 2 = 8 + 3 * (L - 1 - j) by omega]
theorem m_371 {rc : Int32 → Int32 → Int32 → Int32 → Int32 → Int32 → St → Option (Int32 × St)} {x1 x2 x3 x4 kd : Int32} {j : Nat} {σ : St} (hj : j < 8) : f_X6_goRun_371 rc x1 x2 x3 x4 (nI j) kd σ = rc x1 x2 x3 x4 (sA σ 82 j + psd kd (sI σ 75 12) + x4) (nI (j + 1)) (pA σ 83 j (sA σ 82 j + psd kd (sI σ 75 12) + x4)) := by
  have g : ¬ (nI j < 0 ∨ 8 ≤ j) := by
    rintro (h | h)
    · exact nI_pos (by omega) h
    · omega
  unfold f_X6_goRun_371
  simp only [nI_c (show j < 2 ^ 31 by omega), gd_ok g, m_psd, bd_s, nI_1]
theorem m_331 {rc : Int32 → Int32 → Int32 → Int32 → Int32 → Int32 → St → Option (Int32 × St)} {x1 x2 x3 x4 kd x10 : Int32} {j : Nat} {σ : St} (hj : j < 8) : f_X6_goRun_331 rc x1 x2 x3 x4 (nI j) kd x10 σ = if x10 = 0 then f_X6_goRun_371 rc x1 x2 x3 x4 (nI j) kd σ else f_X6_goRun_371 rc x1 x2 x3 x4 (nI j) kd (pA (pA σ 85 j (sA σ 85 j + 1)) 82 j (sA σ 81 j + rdy kd (sI σ 75 12))) := by
  have g : ¬ (nI j < 0 ∨ 8 ≤ j) := by
    rintro (h | h)
    · exact nI_pos (by omega) h
    · omega
  unfold f_X6_goRun_331
  simp only [nI_c (show j < 2 ^ 31 by omega), gd_ok g, m_rdy, bd_s]
theorem m_287 {rc : Int32 → Int32 → Int32 → Int32 → Int32 → Int32 → St → Option (Int32 × St)} {x1 x2 x3 x4 kd t0 : Int32} {rt : Bool} {j : Nat} {σ : St} (hj : j < 8) : f_X6_goRun_287 rc x1 x2 x3 x4 (nI j) kd (if rt then 1 else 0) t0 (nI j) σ = f_X6_goRun_331 rc x1 x2 x3 x4 (nI j) kd (if zK kd rt (sA σ 81 j) (sA σ 84 j) then 1 else 0) (pA σ 82 j t0) := by
  have g : ¬ (nI j < 0 ∨ 8 ≤ j) := by
    rintro (h | h)
    · exact nI_pos (by omega) h
    · omega
  unfold f_X6_goRun_287 f_X6_goRun_328 f_X6_goRun_329
  simp only [nI_c (show j < 2 ^ 31 by omega), gd_ok g, m_sty, bd_s]
  have e1 : sA (pA σ 82 j t0) 81 j = sA σ 81 j := rfl
  have e2 : sA (pA σ 82 j t0) 84 j = sA σ 84 j := rfl
  rw [e1, e2]
  cases rt
  · rw [if_pos (by decide)]
    by_cases h1 : sty kd ≤ 0
    · have hz : zK kd false (sA σ 81 j) (sA σ 84 j) = false := by unfold zK; simp [Int32.not_lt.mpr h1]
      rw [if_pos h1, hz]; rfl
    · rw [if_neg h1]
      by_cases h2 : sA σ 81 j - sA σ 84 j ≤ sty kd
      · have hz : zK kd false (sA σ 81 j) (sA σ 84 j) = false := by unfold zK; simp [Int32.not_lt.mpr h2]
        rw [if_pos h2, hz]; rfl
      · have hz : zK kd false (sA σ 81 j) (sA σ 84 j) = true := by unfold zK; simp [Int32.not_le.mp h1, Int32.not_le.mp h2]
        rw [if_neg h2, hz]; rfl
  · rw [if_neg (by decide)]; rfl
theorem m_202 {rc : Int32 → Int32 → Int32 → Int32 → Int32 → Int32 → St → Option (Int32 × St)} {x1 x2 x3 x4 kd ac : Int32} {rt : Bool} {j : Nat} {σ : St} (hj : j < 8) : f_X6_goRun_202 rc x1 x2 x3 x4 (nI j) kd (if rt then 1 else 0) ac σ = f_X6_goRun_287 rc x1 x2 x3 x4 (nI j) kd (if rt then 1 else 0) (if sA σ 81 j < ac + (if rt then 0 else rdy kd (sI σ 75 12)) then ac + (if rt then 0 else rdy kd (sI σ 75 12)) else sA σ 81 j) (nI j) (pA (pA σ 84 j (ac + (if rt then 0 else rdy kd (sI σ 75 12)))) 85 j (if rt then 0 else 1)) := by
  have g : ¬ (nI j < 0 ∨ 8 ≤ j) := by
    rintro (h | h)
    · exact nI_pos (by omega) h
    · omega
  have h246 : ∀ (t0 : Int32) (υ : St), f_X6_goRun_246 rc x1 x2 x3 x4 (nI j) kd (if rt then 1 else 0) t0 (nI j) υ = f_X6_goRun_287 rc x1 x2 x3 x4 (nI j) kd (if rt then 1 else 0) (if sA υ 81 j < sA υ 84 j then sA υ 84 j else sA υ 81 j) (nI j) (pA υ 85 j t0) := by
    intro t0 υ
    unfold f_X6_goRun_246
    simp only [nI_c (show j < 2 ^ 31 by omega), gd_ok g]
    by_cases h : sA υ 84 j ≤ sA υ 81 j
    · rw [if_pos h, if_neg (Int32.not_lt.mpr h)]
    · rw [if_neg h, if_pos (Int32.not_le.mp h)]
  have h228 : ∀ (t0 : Int32), f_X6_goRun_228 rc x1 x2 x3 x4 (nI j) kd (if rt then 1 else 0) t0 ac (nI j) σ = f_X6_goRun_287 rc x1 x2 x3 x4 (nI j) kd (if rt then 1 else 0) (if sA σ 81 j < ac + t0 then ac + t0 else sA σ 81 j) (nI j) (pA (pA σ 84 j (ac + t0)) 85 j (if rt then 0 else 1)) := by
    intro t0
    unfold f_X6_goRun_228
    simp only [nI_c (show j < 2 ^ 31 by omega), gd_ok g, h246]
    have e1 : sA (pA σ 84 j (ac + t0)) 81 j = sA σ 81 j := rfl
    rw [sA_self, e1]
    cases rt <;> rfl
  unfold f_X6_goRun_202
  simp only [m_rdy, bd_s, h228]
  cases rt <;> rfl
