/-! images -/
theorem nI_xm (a b : Nat) : nI a * nI b = nI (a * b) := (Int32.ofNat_mul a b).symm
theorem e_copy_loop {a a2 : Nat} (hl : ln a2 = ln a) (hne : a2 ≠ a) (σ : St) (F : Nat → Int32) : ∀ (n j : Nat), ln a - j < n → j ≤ ln a → f_X2_copyFrom_2 a a2 n (nI j) (sR σ a (fun m => if m < j then sA σ a2 m else F m)) = some (sR σ a (fun m => if m < ln a then sA σ a2 m else F m)) := by
  intro n
  induction n with
  | zero => intro j h; omega
  | succ n ih =>
    intro j hn hj
    have hl4 := ln_le a
    rw [f_X2_copyFrom_2]
    change (if nI (ln a) ≤ nI j then _ else _) = _
    by_cases he : j = ln a
    · rw [if_pos (show nI (ln a) ≤ nI j by rw [he]; exact Int32.le_refl _), he]
    · rw [if_neg (show ¬ nI (ln a) ≤ nI j from nI_ge (by omega) (by omega)), e_get (by omega), bd_s, nI_c (by omega), gd_ok (by
        rintro (q | q)
        · exact nI_pos (by omega) q
        · omega), sR_pA, nI_1, sR_o _ _ _ _ _ hne]
      have e : upd (fun m => if m < j then sA σ a2 m else F m) j (sA σ a2 j) = (fun m => if m < j + 1 then sA σ a2 m else F m) := by
        funext m
        unfold upd
        try dsimp only
        by_cases h1 : m = j
        · rw [if_pos h1, if_pos (by omega), h1]
        · rw [if_neg h1]
          by_cases h2 : m < j
          · rw [if_pos h2, if_pos (by omega)]
          · rw [if_neg h2, if_neg (by omega)]
      rw [e]
      exact ih (j + 1) (by omega) (by omega)
def cpR (σ : St) (a a2 : Nat) : St := sR σ a (fun m => if m < ln a then sA σ a2 m else sA σ a m)
theorem e_copy {a a2 : Nat} (hl : ln a2 = ln a) (hne : a2 ≠ a) (σ : St) : f_X2_copyFrom a a2 σ = some (cpR σ a a2) := by
  have hl4 := ln_le a
  have h := e_copy_loop hl hne σ (sA σ a) FU 0 (FU_lt (by omega)) (by omega)
  have e : (fun m => if m < 0 then sA σ a2 m else sA σ a m) = sA σ a := by
    funext m
    rw [if_neg (Nat.not_lt_zero m)]
  rw [e, sR_self] at h
  exact h
theorem cpR_at {σ : St} {a a2 m : Nat} (h : m < ln a) : sA (cpR σ a a2) a m = sA σ a2 m := by
  unfold cpR; rw [sR_at, if_pos h]
theorem cpR_o {σ : St} {a a2 c b : Nat} (h : c ≠ a) : sA (cpR σ a a2) c b = sA σ c b := sR_o _ _ _ _ _ h
def cpI (σ : St) (k k' : Nat) : St := pI (pI (pI (pI (pI (pI (pI σ k 0 (sI σ k' 0)) k 1 (sI σ k' 1)) k 2 (sI σ k' 2)) k 3 (sI σ k' 3)) k 4 (sI σ k' 4)) k 5 (sI σ k' 5)) k 6 (sI σ k' 6)
def cpF (σ : St) (k k' : Nat) : St := cpR (cpR (cpR (cpR (cpR (cpR (cpR (cpI σ k k') (k + 2) (k' + 2)) (k + 4) (k' + 4)) (k + 6) (k' + 6)) (k + 8) (k' + 8)) (k + 10) (k' + 10)) (k + 12) (k' + 12)) (k + 14) (k' + 14)
theorem cpF_I {σ : St} {k k' j : Nat} (hj : j < 7) : sI (cpF σ k k') k j = sI σ k' j := by
  unfold cpF cpR cpI
  simp only [sR_I]
  rcases (show j = 0 ∨ j = 1 ∨ j = 2 ∨ j = 3 ∨ j = 4 ∨ j = 5 ∨ j = 6 by omega) with rfl | rfl | rfl | rfl | rfl | rfl | rfl <;> simp [sI_pI]
theorem cpF_Io {σ : St} {k k' c b : Nat} (hc : c ≠ k) : sI (cpF σ k k') c b = sI σ c b := by
  unfold cpF cpR cpI
  simp only [sR_I]
  simp [sI_pI, hc]
theorem cpF_L {σ : St} {k k' c b : Nat} : sL (cpF σ k k') c b = sL σ c b := by
  unfold cpF cpR cpI; rfl
theorem cpF_o {σ : St} {k k' c b : Nat} (hc : c < k + 2 ∨ k + 14 < c) : sA (cpF σ k k') c b = sA σ c b := by
  unfold cpF
  rw [cpR_o (by omega), cpR_o (by omega), cpR_o (by omega), cpR_o (by omega), cpR_o (by omega), cpR_o (by omega), cpR_o (by omega)]
  rfl
theorem cpF_A {σ : St} {k k' q i : Nat} (hs : k + 14 < k' ∨ k' + 14 < k) (hl : ∀ q, q < 7 → rl q ≤ ln (k + 2 + 2 * q)) (hq : q < 7) (hi : i < rl q) : sA (cpF σ k k') (k + 2 + 2 * q) i = sA σ (k' + 2 + 2 * q) i := by
  have h0 := hl q hq
  have hi : i < ln (k + 2 + 2 * q) := by omega
  unfold cpF
  rcases (show q = 0 ∨ q = 1 ∨ q = 2 ∨ q = 3 ∨ q = 4 ∨ q = 5 ∨ q = 6 by omega) with rfl | rfl | rfl | rfl | rfl | rfl | rfl
  · rw [cpR_o (by omega), cpR_o (by omega), cpR_o (by omega), cpR_o (by omega), cpR_o (by omega), cpR_o (by omega), show k + 2 + 2 * 0 = k + 2 from rfl, cpR_at hi]
    rfl
  · rw [cpR_o (by omega), cpR_o (by omega), cpR_o (by omega), cpR_o (by omega), cpR_o (by omega), show k + 2 + 2 * 1 = k + 4 from rfl, cpR_at hi, cpR_o (by omega)]
    rfl
  · rw [cpR_o (by omega), cpR_o (by omega), cpR_o (by omega), cpR_o (by omega), show k + 2 + 2 * 2 = k + 6 from rfl, cpR_at hi, cpR_o (by omega), cpR_o (by omega)]
    rfl
  · rw [cpR_o (by omega), cpR_o (by omega), cpR_o (by omega), show k + 2 + 2 * 3 = k + 8 from rfl, cpR_at hi, cpR_o (by omega), cpR_o (by omega), cpR_o (by omega)]
    rfl
  · rw [cpR_o (by omega), cpR_o (by omega), show k + 2 + 2 * 4 = k + 10 from rfl, cpR_at hi, cpR_o (by omega), cpR_o (by omega), cpR_o (by omega), cpR_o (by omega)]
    rfl
  · rw [cpR_o (by omega), show k + 2 + 2 * 5 = k + 12 from rfl, cpR_at hi, cpR_o (by omega), cpR_o (by omega), cpR_o (by omega), cpR_o (by omega), cpR_o (by omega)]
    rfl
  · rw [show k + 2 + 2 * 6 = k + 14 from rfl, cpR_at hi, cpR_o (by omega), cpR_o (by omega), cpR_o (by omega), cpR_o (by omega), cpR_o (by omega), cpR_o (by omega)]
    rfl
theorem e_cp16 (σ : St) : f_X0_copyFrom_16_1 σ = some (cpF σ 16 1) := by
  unfold f_X0_copyFrom_16_1
  rw [e_copy (by decide) (by decide), bv_s, e_copy (by decide) (by decide), bv_s, e_copy (by decide) (by decide), bv_s, e_copy (by decide) (by decide), bv_s, e_copy (by decide) (by decide), bv_s, e_copy (by decide) (by decide), bv_s, e_copy (by decide) (by decide), bv_s]
  unfold cpF cpI
  rfl
theorem e_cp31 (σ : St) : f_X0_copyFrom_31_1 σ = some (cpF σ 31 1) := by
  unfold f_X0_copyFrom_31_1
  rw [e_copy (by decide) (by decide), bv_s, e_copy (by decide) (by decide), bv_s, e_copy (by decide) (by decide), bv_s, e_copy (by decide) (by decide), bv_s, e_copy (by decide) (by decide), bv_s, e_copy (by decide) (by decide), bv_s, e_copy (by decide) (by decide), bv_s]
  unfold cpF cpI
  rfl
theorem e_pc16 (σ : St) : f_X0_copyFrom_1_16 σ = some (cpF σ 1 16) := by
  unfold f_X0_copyFrom_1_16
  rw [e_copy (by decide) (by decide), bv_s, e_copy (by decide) (by decide), bv_s, e_copy (by decide) (by decide), bv_s, e_copy (by decide) (by decide), bv_s, e_copy (by decide) (by decide), bv_s, e_copy (by decide) (by decide), bv_s, e_copy (by decide) (by decide), bv_s]
  unfold cpF cpI
  rfl
theorem e_pc31 (σ : St) : f_X0_copyFrom_1_31 σ = some (cpF σ 1 31) := by
  unfold f_X0_copyFrom_1_31
  rw [e_copy (by decide) (by decide), bv_s, e_copy (by decide) (by decide), bv_s, e_copy (by decide) (by decide), bv_s, e_copy (by decide) (by decide), bv_s, e_copy (by decide) (by decide), bv_s, e_copy (by decide) (by decide), bv_s, e_copy (by decide) (by decide), bv_s]
  unfold cpF cpI
  rfl
theorem e_pc46 (σ : St) : f_X0_copyFrom_1_46 σ = some (cpF σ 1 46) := by
  unfold f_X0_copyFrom_1_46
  rw [e_copy (by decide) (by decide), bv_s, e_copy (by decide) (by decide), bv_s, e_copy (by decide) (by decide), bv_s, e_copy (by decide) (by decide), bv_s, e_copy (by decide) (by decide), bv_s, e_copy (by decide) (by decide), bv_s, e_copy (by decide) (by decide), bv_s]
  unfold cpF cpI
  rfl
def imF (σ : St) (x j : Nat) : Nat → Int32 := fun m => if 122 * x ≤ m ∧ m < 122 * x + j then sA σ 76 (m - 122 * x) else sA σ 77 m
theorem m_image_loop (σ : St) (x : Nat) (hx : x < 2) : ∀ (n j : Nat), 122 - j < n → j ≤ 122 → f_X6_image_19 n (nI x) (nI j) (sR σ 77 (imF σ x j)) = some (1, pA (sR σ 77 (imF σ x 122)) 78 x 1) := by
  intro n
  induction n with
  | zero => intro j h; omega
  | succ n ih =>
    intro j hn hj
    rw [f_X6_image_19]
    by_cases he : j = 122
    · subst he
      rw [if_pos (by decide), nI_c (by omega), gd_ok (by
        rintro (q | q)
        · exact nI_pos (by omega) q
        · omega)]
    · have e0 : (122 : Int32) * nI x + nI j = nI (122 * x + j) := by
        rw [show (122 : Int32) = nI 122 from rfl, nI_xm, nI_add]
      rw [if_neg (show ¬ (122 : Int32) ≤ nI j from nI_ge (show j < 122 by omega) (by decide)), e0, nI_c (by omega), nI_c (by omega), gd_ok (by
        rintro (q | q)
        · exact nI_pos (by omega) q
        · omega), gd_ok (by
        rintro (q | q)
        · exact nI_pos (by omega) q
        · omega), sR_pA, nI_1, sR_o _ _ _ _ _ (by decide)]
      have e : upd (imF σ x j) (122 * x + j) (sA σ 76 j) = imF σ x (j + 1) := by
        funext m
        unfold upd imF
        try dsimp only
        by_cases h1 : m = 122 * x + j
        · rw [if_pos h1, if_pos (by omega), h1]
          congr 1
          omega
        · rw [if_neg h1]
          by_cases h2 : 122 * x ≤ m ∧ m < 122 * x + j
          · rw [if_pos h2, if_pos (by omega)]
          · rw [if_neg h2, if_neg (by omega)]
      rw [e]
      exact ih (j + 1) (by omega) (by omega)
theorem m_image (σ : St) (x : Nat) (hx : x < 2) : f_X6_image_19 FU (nI x) 0 σ = some (1, pA (sR σ 77 (imF σ x 122)) 78 x 1) := by
  have h := m_image_loop σ x hx FU 0 (FU_lt (by omega)) (by omega)
  have e : imF σ x 0 = sA σ 77 := by
    funext m
    unfold imF
    rw [if_neg (by omega)]
  rw [e, sR_self] at h
  exact h
def frF (σ : St) (x j : Nat) : Nat → Int32 := fun m => if m < j then sA σ 77 (122 * x + m) else sA σ 76 m
theorem m_from_loop (σ : St) (x : Nat) (hx : x < 2) : ∀ (n j : Nat), 122 - j < n → j ≤ 122 → f_X6_from_33 n (nI x) (nI j) (sR σ 76 (frF σ x j)) = some (1, sR σ 76 (frF σ x 122)) := by
  intro n
  induction n with
  | zero => intro j h; omega
  | succ n ih =>
    intro j hn hj
    rw [f_X6_from_33]
    by_cases he : j = 122
    · subst he
      rw [if_pos (by decide)]
    · have e0 : (122 : Int32) * nI x + nI j = nI (122 * x + j) := by
        rw [show (122 : Int32) = nI 122 from rfl, nI_xm, nI_add]
      rw [if_neg (show ¬ (122 : Int32) ≤ nI j from nI_ge (show j < 122 by omega) (by decide)), e0, nI_c (by omega), nI_c (by omega), gd_ok (by
        rintro (q | q)
        · exact nI_pos (by omega) q
        · omega), gd_ok (by
        rintro (q | q)
        · exact nI_pos (by omega) q
        · omega), sR_pA, nI_1, sR_o _ _ _ _ _ (by decide)]
      have e : upd (frF σ x j) j (sA σ 77 (122 * x + j)) = frF σ x (j + 1) := by
        funext m
        unfold upd frF
        try dsimp only
        by_cases h1 : m = j
        · rw [if_pos h1, if_pos (by omega), h1]
        · rw [if_neg h1]
          by_cases h2 : m < j
          · rw [if_pos h2, if_pos (by omega)]
          · rw [if_neg h2, if_neg (by omega)]
      rw [e]
      exact ih (j + 1) (by omega) (by omega)
theorem m_from (σ : St) (x : Nat) (hx : x < 2) : f_X6_from_33 FU (nI x) 0 σ = some (1, sR σ 76 (frF σ x 122)) := by
  have h := m_from_loop σ x hx FU 0 (FU_lt (by omega)) (by omega)
  have e : frF σ x 0 = sA σ 76 := by
    funext m
    unfold frF
    rw [if_neg (by omega)]
  rw [e, sR_self] at h
  exact h
theorem eq_image {σ : St} (h : JJ σ) (x : Int32) : EQI (f_X5_image x) (f_X6_image x) σ := by
  unfold EQI f_X5_image f_X6_image f_X5_refusedBad f_X6_bad
  simp only [e_within, m_inI x 0 1 0 1 rfl rfl, bd_s, if10]
  by_cases hc : 0 ≤ x ∧ x ≤ 1
  · simp only [if_pos hc]
    obtain ⟨h1, h2, h3, h4, h5, h6, h7, h8, h9, h10, h11, h12, T, hT, t1, t2, t3⟩ := id h
    obtain ⟨j, hj, rfl⟩ := i_of (n := 1) rfl hc
    rcases (show j = 0 ∨ j = 1 by omega) with rfl | rfl
    · rw [if_pos (by decide), e_cp16, bv_s]
      have hA : ∀ c, c < 18 ∨ 30 < c → c ≠ 77 → c ≠ 78 → ∀ b, sA (pA (sR (pI (cpF σ 16 1) 0 6 1) 77 (imF (pI (cpF σ 16 1) 0 6 1) 0 122)) 78 0 1) c b = sA σ c b := fun c h0 h1 h2 b => by
        rw [sA_pA, if_neg (by omega), sR_o _ _ _ _ _ h1, sA_pI]
        exact cpF_o (by omega)
      have hI : ∀ c b, c ≠ 16 → c ≠ 0 → sI (pA (sR (pI (cpF σ 16 1) 0 6 1) 77 (imF (pI (cpF σ 16 1) 0 6 1) 0 122)) 78 0 1) c b = sI σ c b := fun c b h1 h0 => by
        rw [sI_pA, sR_I, sI_pI, if_neg (by omega)]
        exact cpF_Io h1
      have hI0 : ∀ b, b ≠ 6 → sI (pA (sR (pI (cpF σ 16 1) 0 6 1) 77 (imF (pI (cpF σ 16 1) 0 6 1) 0 122)) 78 0 1) 0 b = sI σ 0 b := fun b hb => by
        rw [sI_pA, sR_I, sI_pI, if_neg (by omega)]
        exact cpF_Io (by decide)
      have h77 : ∀ m, sA (pA (sR (pI (cpF σ 16 1) 0 6 1) 77 (imF (pI (cpF σ 16 1) 0 6 1) 0 122)) 78 0 1) 77 m = if m < 122 then sA σ 76 m else sA σ 77 m := fun m => by
        rw [sA_pA, if_neg (by omega), sR_at]
        unfold imF
        have e1 : sA (pI (cpF σ 16 1) 0 6 1) 76 (m - 122 * 0) = sA σ 76 m := by rw [sA_pI, cpF_o (by omega)]; rfl
        have e2 : sA (pI (cpF σ 16 1) 0 6 1) 77 m = sA σ 77 m := by rw [sA_pI]; exact cpF_o (by omega)
        rw [e1, e2]
        by_cases hm : m < 122
        · rw [if_pos (by omega), if_pos hm]
        · rw [if_neg (by omega), if_neg hm]
      have h78 : ∀ m, m ≠ 0 → sA (pA (sR (pI (cpF σ 16 1) 0 6 1) 77 (imF (pI (cpF σ 16 1) 0 6 1) 0 122)) 78 0 1) 78 m = sA σ 78 m := fun m hm => by
        rw [sA_pA, if_neg (by omega), sR_o _ _ _ _ _ (by decide), sA_pI]
        exact cpF_o (by omega)
      refine ⟨1, _, _, rfl, m_image _ 0 (by decide), ?_⟩
      refine ⟨h1.moved (fun b => hI 1 b (by decide) (by decide)) (fun q hq b => hA _ (by omega) (by omega) (by omega) b) (hA 76 (by decide) (by decide) (by decide)), fun _ => FR.congr h1 (fun j hj => ?_) (fun q i hq hi => ?_) (fun n hn => ?_), fun e => ?_, Or.inr rfl, ?_, rfl, ?_, by rw [sL_pA, sR_L, sL_pI, cpF_L, sL_pA, sR_L, sL_pI, cpF_L]; exact h8, by rw [sL_pA, sR_L, sL_pI, cpF_L, sL_pA, sR_L, sL_pI, cpF_L]; exact h9, ?_, ?_, ?_, T, hT, ?_, ?_, fun i hi => ?_⟩
      · rw [sI_pA, sR_I, sI_pI, if_neg (by omega)]
        exact cpF_I hj
      · show sA (pA (sR (pI (cpF σ 16 1) 0 6 1) 77 _) 78 0 1) (16 + 2 + 2 * q) i = _
        rw [sA_pA, if_neg (by omega), sR_o _ _ _ _ _ (by omega), sA_pI]
        exact cpF_A (by decide) (by decide) hq hi
      · show sA _ 77 (0 + n) = sA σ 76 (0 + n)
        rw [Nat.zero_add, h77, if_pos hn]
      · rw [hI0 7 (by decide)] at e
        refine FR.congr (h3 e) (fun j hj => hI 31 j (by decide) (by decide)) (fun q i hq hi => hA _ (by omega) (by omega) (by omega) i) (fun n hn => ?_)
        show sA _ 77 (122 + n) = _
        rw [h77, if_neg (by omega)]
      · rw [hI0 7 (by decide)]; exact h5
      · rw [h78 1 (by decide), hI0 7 (by decide)]; exact h7
      · rw [hA 79 (by decide) (by decide) (by decide), hI0 10 (by decide)]; exact h10
      · rw [hA 79 (by decide) (by decide) (by decide), hI0 11 (by decide)]; exact h11
      · rw [hA 79 (by decide) (by decide) (by decide), hI0 12 (by decide)]; exact h12
      · rw [hI 72 0 (by decide) (by decide)]; exact t1
      · rw [hI 75 15 (by decide) (by decide)]; exact t2
      · rw [hA 86 (by decide) (by decide) (by decide), hA 74 (by decide) (by decide) (by decide)]; exact t3 i hi
    · rw [if_neg (by decide), e_cp31, bv_s]
      have hA : ∀ c, c < 33 ∨ 45 < c → c ≠ 77 → c ≠ 78 → ∀ b, sA (pA (sR (pI (cpF σ 31 1) 0 7 1) 77 (imF (pI (cpF σ 31 1) 0 7 1) 1 122)) 78 1 1) c b = sA σ c b := fun c h0 h1 h2 b => by
        rw [sA_pA, if_neg (by omega), sR_o _ _ _ _ _ h1, sA_pI]
        exact cpF_o (by omega)
      have hI : ∀ c b, c ≠ 31 → c ≠ 0 → sI (pA (sR (pI (cpF σ 31 1) 0 7 1) 77 (imF (pI (cpF σ 31 1) 0 7 1) 1 122)) 78 1 1) c b = sI σ c b := fun c b h1 h0 => by
        rw [sI_pA, sR_I, sI_pI, if_neg (by omega)]
        exact cpF_Io h1
      have hI0 : ∀ b, b ≠ 7 → sI (pA (sR (pI (cpF σ 31 1) 0 7 1) 77 (imF (pI (cpF σ 31 1) 0 7 1) 1 122)) 78 1 1) 0 b = sI σ 0 b := fun b hb => by
        rw [sI_pA, sR_I, sI_pI, if_neg (by omega)]
        exact cpF_Io (by decide)
      have h77 : ∀ m, sA (pA (sR (pI (cpF σ 31 1) 0 7 1) 77 (imF (pI (cpF σ 31 1) 0 7 1) 1 122)) 78 1 1) 77 m = if 122 ≤ m ∧ m < 244 then sA σ 76 (m - 122) else sA σ 77 m := fun m => by
        rw [sA_pA, if_neg (by omega), sR_at]
        unfold imF
        have e1 : sA (pI (cpF σ 31 1) 0 7 1) 76 (m - 122 * 1) = sA σ 76 (m - 122) := by rw [sA_pI, cpF_o (by omega)]
        have e2 : sA (pI (cpF σ 31 1) 0 7 1) 77 m = sA σ 77 m := by rw [sA_pI]; exact cpF_o (by omega)
        rw [e1, e2]
      have h78 : ∀ m, m ≠ 1 → sA (pA (sR (pI (cpF σ 31 1) 0 7 1) 77 (imF (pI (cpF σ 31 1) 0 7 1) 1 122)) 78 1 1) 78 m = sA σ 78 m := fun m hm => by
        rw [sA_pA, if_neg (by omega), sR_o _ _ _ _ _ (by decide), sA_pI]
        exact cpF_o (by omega)
      refine ⟨1, _, _, rfl, m_image _ 1 (by decide), ?_⟩
      refine ⟨h1.moved (fun b => hI 1 b (by decide) (by decide)) (fun q hq b => hA _ (by omega) (by omega) (by omega) b) (hA 76 (by decide) (by decide) (by decide)), fun e => ?_, fun _ => FR.congr h1 (fun j hj => ?_) (fun q i hq hi => ?_) (fun n hn => ?_), ?_, Or.inr rfl, ?_, rfl, by rw [sL_pA, sR_L, sL_pI, cpF_L, sL_pA, sR_L, sL_pI, cpF_L]; exact h8, by rw [sL_pA, sR_L, sL_pI, cpF_L, sL_pA, sR_L, sL_pI, cpF_L]; exact h9, ?_, ?_, ?_, T, hT, ?_, ?_, fun i hi => ?_⟩
      · rw [hI0 6 (by decide)] at e
        refine FR.congr (h2 e) (fun j hj => hI 16 j (by decide) (by decide)) (fun q i hq hi => hA _ (by omega) (by omega) (by omega) i) (fun n hn => ?_)
        show sA _ 77 (0 + n) = _
        rw [h77, if_neg (by omega)]
      · rw [sI_pA, sR_I, sI_pI, if_neg (by omega)]
        exact cpF_I hj
      · show sA (pA (sR (pI (cpF σ 31 1) 0 7 1) 77 _) 78 1 1) (31 + 2 + 2 * q) i = _
        rw [sA_pA, if_neg (by omega), sR_o _ _ _ _ _ (by omega), sA_pI]
        exact cpF_A (by decide) (by decide) hq hi
      · show sA _ 77 (122 + n) = sA σ 76 (0 + n)
        rw [Nat.zero_add, h77, if_pos (by omega), show 122 + n - 122 = n by omega]
      · rw [hI0 6 (by decide)]; exact h4
      · rw [h78 0 (by decide), hI0 6 (by decide)]; exact h6
      · rw [hA 79 (by decide) (by decide) (by decide), hI0 10 (by decide)]; exact h10
      · rw [hA 79 (by decide) (by decide) (by decide), hI0 11 (by decide)]; exact h11
      · rw [hA 79 (by decide) (by decide) (by decide), hI0 12 (by decide)]; exact h12
      · rw [hI 72 0 (by decide) (by decide)]; exact t1
      · rw [hI 75 15 (by decide) (by decide)]; exact t2
      · rw [hA 86 (by decide) (by decide) (by decide), hA 74 (by decide) (by decide) (by decide)]; exact t3 i hi
  · simp only [if_neg hc]
    exact ⟨_, _, _, rfl, rfl, h.bad⟩
/-- a kept flight is taken back -/
theorem JJ.back {σ : St} (h : JJ σ) (x k : Nat) (hk : k = 16 ∨ k = 31) (hF : FS σ k 77 (122 * x)) : JJ (sR (cpF σ 1 k) 76 (frF (cpF σ 1 k) x 122)) := by
  have hs : 1 + 14 < k ∨ k + 14 < 1 := by omega
  have hI : ∀ c b, c ≠ 1 → sI (sR (cpF σ 1 k) 76 (frF (cpF σ 1 k) x 122)) c b = sI σ c b := fun c b hc => by
    rw [sR_I]; exact cpF_Io hc
  have hA : ∀ c b, 15 < c → c ≠ 76 → sA (sR (cpF σ 1 k) 76 (frF (cpF σ 1 k) x 122)) c b = sA σ c b := fun c b h1 h2 => by
    rw [sR_o _ _ _ _ _ h2]; exact cpF_o (by omega)
  have hF2 : FS (sR (cpF σ 1 k) 76 (frF (cpF σ 1 k) x 122)) 1 76 0 := by
    refine FR.congr hF (fun j hj => ?_) (fun q i hq hi => ?_) (fun n hn => ?_)
    · rw [sR_I]; exact cpF_I hj
    · show sA (sR (cpF σ 1 k) 76 _) (1 + 2 + 2 * q) i = _
      rw [sR_o _ _ _ _ _ (by omega)]
      exact cpF_A hs (by decide) hq hi
    · show sA (sR (cpF σ 1 k) 76 _) 76 (0 + n) = sA σ 77 (122 * x + n)
      rw [Nat.zero_add, sR_at]
      unfold frF
      rw [if_pos hn, cpF_o (by omega)]
  exact h.now hF2 (fun b => hI 0 b (by decide)) (fun c h1 h2 b => hI c b (by omega)) (fun c b => by rw [sR_L, cpF_L]) (fun c h1 h2 b => hA c b (by omega) (by omega)) (hI 72 0 (by decide)) (hI 75 15 (by decide)) (fun c hc b => hA c b (by omega) (by omega))
theorem eq_from {σ : St} (h : JJ σ) (x : Int32) : EQI (f_X5_from x) (f_X6_from x) σ := by
  unfold EQI f_X5_from f_X6_from f_X5_refusedBad f_X6_bad f_X5_refusedNo f_X6_no f_X5_from_40
  simp only [e_within, m_inI x 0 1 0 1 rfl rfl, bd_s, if10]
  by_cases hc : 0 ≤ x ∧ x ≤ 1
  · simp only [if_pos hc]
    obtain ⟨h1, h2, h3, h4, h5, h6, h7, h8, h9, h10, h11, h12, h13⟩ := id h
    obtain ⟨j, hj, rfl⟩ := i_of (n := 1) rfl hc
    rcases (show j = 0 ∨ j = 1 by omega) with rfl | rfl
    · have z0 : nI 0 = (0 : Int32) := by decide
      rw [if_pos z0]
      rcases h4 with h4 | h4
      · rw [if_pos h4]
        refine ⟨_, _, _, rfl, ?_, h.no⟩
        rw [gd_ok (by decide), if_pos (show sA (pI σ 0 11 (sI σ 0 11 + 1)) 78 (nI 0).toNatClampNeg = 0 from h6.trans h4)]
      · rw [if_neg (show ¬ sI σ 0 6 = 0 by rw [h4]; decide), if_pos z0, e_pc16, bv_s]
        refine ⟨1, cpF σ 1 16, _, rfl, ?_, h.back 0 16 (Or.inl rfl) (h2 h4)⟩
        rw [gd_ok (by decide), if_neg (by
          show ¬ sA (cpF σ 1 16) 78 0 = 0
          rw [cpF_o (by decide), h6, h4]; decide)]
        exact m_from _ 0 (by decide)
    · have z0 : ¬ nI 1 = (0 : Int32) := by decide
      rw [if_neg z0]
      rcases h5 with h5 | h5
      · rw [if_pos h5]
        refine ⟨_, _, _, rfl, ?_, h.no⟩
        rw [gd_ok (by decide), if_pos (show sA (pI σ 0 11 (sI σ 0 11 + 1)) 78 (nI 1).toNatClampNeg = 0 from h7.trans h5)]
      · rw [if_neg (show ¬ sI σ 0 7 = 0 by rw [h5]; decide), if_neg z0, e_pc31, bv_s]
        refine ⟨1, cpF σ 1 31, _, rfl, ?_, h.back 1 31 (Or.inr rfl) (h3 h5)⟩
        rw [gd_ok (by decide), if_neg (by
          show ¬ sA (cpF σ 1 31) 78 1 = 0
          rw [cpF_o (by decide), h7, h5]; decide)]
        exact m_from _ 1 (by decide)
  · simp only [if_neg hc]
    exact ⟨_, _, _, rfl, rfl, h.bad⟩
