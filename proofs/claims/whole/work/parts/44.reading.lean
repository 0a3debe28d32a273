theorem FRx.reading {L rd un : Nat} {g g' : Nat → Int32} {r r' : Nat → Nat → Int32} {a a' : Nat → Int32} {p : Nat} {v : Int32} (h : FRx L rd un g r a) (hrd : rd < 6) (hp : p < L)
    (hg : ∀ j, j ≠ 5 → g' j = g j) (g5 : g' 5 = nI (rd + 1)) (r2 : ∀ i, r' 2 i = if i = rd then nI p else r 2 i) (r3 : ∀ i, r' 3 i = if i = rd then v else r 3 i) (hr' : ∀ q i, q ≠ 2 → q ≠ 3 → r' q i = r q i)
    (h4 : a' 4 = nI (rd + 1)) (h30 : a' (30 + 2 * rd) = nI p) (h31 : a' (31 + 2 * rd) = v) (ho : ∀ n, n ≠ 4 → n ≠ 30 + 2 * rd → n ≠ 31 + 2 * rd → a' n = a n) : FRx L (rd + 1) un g' r' a' := by
  obtain ⟨hL8, hrd6, hun, q0, b0, b1, b2, b3, q5, b4, q6, b5, hk, ⟨B, hB, hB2, hB3⟩, hr, hu⟩ := h
  refine ⟨hL8, by omega, hun, by rw [hg 0 (by decide)]; exact q0, by rw [ho 0 (by decide) (by omega) (by omega)]; exact b0, by rw [ho 1 (by decide) (by omega) (by omega), hg 1 (by decide)]; exact b1, by rw [ho 2 (by decide) (by omega) (by omega), hg 3 (by decide)]; exact b2, by rw [ho 3 (by decide) (by omega) (by omega), hg 4 (by decide)]; exact b3, g5, h4, by rw [hg 6 (by decide)]; exact q6, by rw [ho 5 (by decide) (by omega) (by omega)]; exact b5, fun i hi => ?_, ⟨B, by rw [hg 2 (by decide)]; exact hB, hB2, fun i hi => ?_⟩, fun j hj => ?_, fun u hu' => ?_⟩
  · rw [ho _ (by omega) (by omega) (by omega), ho _ (by omega) (by omega) (by omega), hr' 0 i (by decide) (by decide), hr' 1 i (by decide) (by decide)]
    exact hk i hi
  · show a' (7 + 3 * i) = _
    rw [ho _ (by omega) (by omega) (by omega)]
    exact hB3 i hi
  · rw [r2, r3]
    by_cases e : j = rd
    · rw [if_pos e, if_pos e, e, h30, h31]
      exact ⟨rfl, rfl, p, hp, rfl⟩
    · rw [if_neg e, if_neg e, ho _ (by omega) (by omega) (by omega), ho _ (by omega) (by omega) (by omega)]
      exact hr j (by omega)
  · obtain ⟨w1, w2, B', hB', hB2', hB3'⟩ := hu u hu'
    rw [ho _ (by omega) (by omega) (by omega), ho _ (by omega) (by omega) (by omega), hr' 5 u (by decide) (by decide), hr' 6 u (by decide) (by decide), hr' 4 u (by decide) (by decide)]
    refine ⟨w1, w2, B', hB', hB2', fun i hi => ?_⟩
    show a' (42 + 10 * u + i) = _
    rw [ho _ (by omega) (by omega) (by omega)]
    exact hB3' i hi
theorem eq_reading {σ : St} (h : JJ σ) (x y : Int32) : EQI (f_X5_reading x y) (f_X6_reading x y) σ := by
  obtain ⟨L, rd, un, hx⟩ := h.1.x
  have hL : sI σ 1 0 = nI L := hx.2.2.2.1
  have hA : sA σ 76 0 = nI L := hx.2.2.2.2.1
  have hL8 : L ≤ 8 := hx.1
  have g5 : sI σ 1 5 = nI rd := hx.2.2.2.2.2.2.2.2.1
  have a4 : sA σ 76 4 = nI rd := hx.2.2.2.2.2.2.2.2.2.1
  have hrd : rd ≤ 6 := hx.2.1
  unfold EQI f_X5_reading f_X6_reading f_X5_refusedBad f_X6_bad f_X5_refusedFull f_X6_full
  simp only [e_has hL, e_within, bd_s, if10]
  by_cases hc : 0 ≤ x ∧ x ≤ nI L - 1
  · obtain ⟨p, hp, rfl⟩ := (has_iff hL8).mp hc
    by_cases hc2 : 0 ≤ y ∧ y ≤ 999
    · simp only [if_pos hc, if_pos hc2]
      rw [g5]
      by_cases hf : rd = 6
      · subst hf
        rw [if_neg (by decide)]
        refine ⟨_, _, _, rfl, ?_, h.full⟩
        rw [m_isLock (show sA (pI σ 0 12 (sI σ 0 12 + 1)) 76 0 = nI L from hA), bd_s, if_pos hc, if_neg (by decide), m_inI y 0 999 0 999 rfl rfl, bd_s, if_pos hc2, if_neg (by decide), show sA (pI σ 0 12 (sI σ 0 12 + 1)) 76 4 = nI 6 from a4, if_pos (by decide)]
      · have hlt : rd < 6 := by omega
        rw [if_pos (show nI rd < 6 from nI_lt hlt (by decide))]
        have e1 : f_X0_addReading_1 (nI p) y σ = some (pI (pA (pA σ 7 rd (nI p)) 9 rd y) 1 5 (nI (rd + 1))) := by
          unfold f_X0_addReading_1
          rw [g5, e_put (a := 7) (show rd < 6 from hlt), bv_s, show sI (pA σ 7 rd (nI p)) 1 5 = nI rd from g5, e_put (a := 9) (show rd < 6 from hlt), bv_s, show sI (pA (pA σ 7 rd (nI p)) 9 rd y) 1 5 = nI rd from g5, nI_1]
        rw [e1, bv_s]
        generalize hτ : pI (pA (pA σ 7 rd (nI p)) 9 rd y) 1 5 (nI (rd + 1)) = τ
        have hAτ : sA τ 76 0 = nI L := by rw [← hτ]; exact hA
        have a4τ : sA τ 76 4 = nI rd := by rw [← hτ]; exact a4
        have g5τ : sI τ 1 5 = nI (rd + 1) := by rw [← hτ]; rfl
        have e30 : (30 : Int32) + 2 * nI rd = nI (30 + 2 * rd) := by
          rw [show (30 : Int32) = nI 30 from rfl, show (2 : Int32) = nI 2 from rfl, pk_mul, nI_add]
        have e31 : nI (30 + 2 * rd) + 1 = nI (31 + 2 * rd) := by rw [nI_1]; congr 1; omega
        have b4 : sA (pA τ 76 (30 + 2 * rd) (nI p)) 76 4 = nI rd := by rw [sA_pA, if_neg (by omega)]; exact a4τ
        have b5 : sA (pA (pA τ 76 (30 + 2 * rd) (nI p)) 76 (31 + 2 * rd) y) 76 4 = nI rd := by rw [sA_pA, if_neg (by omega)]; exact b4
        have k0 : ∀ {m : Nat}, m < 122 → ¬ (nI m < 0 ∨ 122 ≤ m) := by
          intro m hm
          rintro (q | q)
          · exact nI_pos (by omega) q
          · omega
        have e2 : pA (pA (pA τ 76 (30 + 2 * rd) (nI p)) 76 (31 + 2 * rd) y) 76 4 (nI (rd + 1)) = sR τ 76 (upd (upd (upd (sA τ 76) (30 + 2 * rd) (nI p)) (31 + 2 * rd) y) 4 (nI (rd + 1))) := by
          rw [← sR_pA, ← sR_pA, ← sR_pA, sR_self]
        refine ⟨nI rd, τ, sR τ 76 (upd (upd (upd (sA τ 76) (30 + 2 * rd) (nI p)) (31 + 2 * rd) y) 4 (nI (rd + 1))), ?_, ?_, ?_⟩
        · rw [g5τ, nI_pred]
        · rw [m_isLock hAτ, bd_s, if_pos hc, if_neg (by decide), m_inI y 0 999 0 999 rfl rfl, bd_s, if_pos hc2, if_neg (by decide), a4τ, if_neg (show ¬ nI rd = 6 from fun e => hf ((nI_eq (b := 6) (by omega) (by decide)).mp e)), e30, nI_c (by omega), b4, e30, e31, nI_c (by omega), b5, gd_ok (k0 (by omega)), gd_ok (k0 (by omega)), nI_1, nI_pred, e2]
        · refine h.now (FS.of (L := L) (rd := rd + 1) (un := un) (FRx.reading (p := p) (v := y) hx hlt hp ?_ ?_ ?_ ?_ ?_ ?_ ?_ ?_ ?_)) ?_ ?_ ?_ ?_ ?_ ?_ ?_
          · intro j hj
            show sI (sR τ 76 _) 1 j = _
            rw [sR_I, ← hτ, sI_pI, if_neg (fun q => hj q.2)]; rfl
          · exact g5τ
          · intro i
            show sA (sR τ 76 _) 7 i = _
            rw [sR_o _ _ _ _ _ (by decide), ← hτ]
            show (if 7 = 9 ∧ i = rd then y else if 7 = 7 ∧ i = rd then nI p else sA σ 7 i) = _
            simp
          · intro i
            show sA (sR τ 76 _) 9 i = _
            rw [sR_o _ _ _ _ _ (by decide), ← hτ]
            show (if 9 = 9 ∧ i = rd then y else if 9 = 7 ∧ i = rd then nI p else sA σ 9 i) = _
            simp
          · intro q i h2 h3
            show sA (sR τ 76 _) (1 + 2 + 2 * q) i = sA σ (1 + 2 + 2 * q) i
            by_cases hq : 1 + 2 + 2 * q = 76
            · omega
            · rw [sR_o _ _ _ _ _ hq, ← hτ]
              simp only [sA_pI, sA_pA]
              rw [if_neg (by omega), if_neg (by omega)]
          · rw [sR_at]; unfold upd; rw [if_pos rfl]
          · rw [sR_at]; unfold upd; rw [if_neg (by omega), if_neg (by omega), if_pos rfl]
          · rw [sR_at]; unfold upd; rw [if_neg (by omega), if_pos rfl]
          · intro n n1 n2 n3
            rw [sR_at]; unfold upd
            rw [if_neg n1, if_neg n3, if_neg n2, ← hτ]; rfl
          · intro b; rw [sR_I, ← hτ]; rfl
          · intro k h1 h2 b
            rw [sR_I, ← hτ, sI_pI, if_neg (by omega)]; rfl
          · intro k b; rw [sR_L, ← hτ]; rfl
          · intro k h1 h2 b
            rw [sR_o _ _ _ _ _ (by omega), ← hτ]
            simp only [sA_pI, sA_pA]
            rw [if_neg (by omega), if_neg (by omega)]
          · rw [sR_I, ← hτ]; rfl
          · rw [sR_I, ← hτ]; rfl
          · intro k hk b
            rw [sR_o _ _ _ _ _ (by omega), ← hτ]
            simp only [sA_pI, sA_pA]
            rw [if_neg (by omega), if_neg (by omega)]
    · simp only [if_pos hc, if_neg hc2]
      refine ⟨_, _, _, rfl, ?_, h.bad⟩
      rw [m_isLock (show sA (pI σ 0 10 (sI σ 0 10 + 1)) 76 0 = nI L from hA), bd_s, if_pos hc, if_neg (by decide), m_inI y 0 999 0 999 rfl rfl, bd_s, if_neg hc2, if_pos rfl]
  · simp only [if_neg hc]
    refine ⟨_, _, _, rfl, ?_, h.bad⟩
    rw [m_isLock (show sA (pI σ 0 10 (sI σ 0 10 + 1)) 76 0 = nI L from hA), bd_s, if_neg hc, if_pos rfl]
theorem e_standsOf {σ : St} {B i : Nat} (hB : sI σ 1 2 = nI B) (hB8 : B < 256) (hi : i < 8) : f_X0_standsOf_1 (nI i) σ = some (nI (B / 2 ^ i % 2), σ) := by
  unfold f_X0_standsOf_1
  rw [hB, bit_at i hi B hB8]
theorem eq_of {σ : St} (h : JJ σ) (x y : Int32) : EQI (f_X5_of x y) (f_X6_of x y) σ := by
  obtain ⟨L, rd, un, hx⟩ := h.1.x
  obtain ⟨hL8, hrd6, hun, q0, b0, b1, b2, b3, q5, b4, q6, b5, hk, ⟨B, hB, hB2, hB3⟩, hr, hu⟩ := id hx
  have hL : sI σ 1 0 = nI L := q0
  have hA : sA σ 76 0 = nI L := b0
  have hB8 : B < 256 := Nat.lt_of_lt_of_le hB2 (two_le hL8)
  unfold EQI f_X5_of f_X6_of f_X5_refusedBad f_X6_bad
  simp only [e_has hL, e_within, bd_s, if10, e_rdy, e_psd, e_sty, m_rdy, m_psd, m_sty]
  by_cases hc : 0 ≤ x ∧ x ≤ nI L - 1
  · obtain ⟨i, hi, rfl⟩ := (has_iff hL8).mp hc
    have hi8 : i < 8 := by omega
    by_cases hc2 : 0 ≤ y ∧ y ≤ 5
    · simp only [if_pos hc, if_pos hc2]
      obtain ⟨w, hw, rfl⟩ := i_of (n := 5) rfl hc2
      rw [e_get (a := 3) (show i < 8 from hi8), bd_s]
      have c0 : f_X6_get (nI i) 0 σ = some (sA σ 3 i, σ) := by
        rw [show (0 : Int32) = nI 0 from rfl, m_get (by omega), show sA σ 76 (6 + 3 * i + 0) = sA σ 3 i from (hk i hi).1]
      have c1 : f_X6_get (nI i) (nI 1) σ = some (nI (B / 2 ^ i % 2), σ) := by
        rw [m_get (by omega), show 6 + 3 * i + 1 = 7 + 3 * i by omega, show sA σ 76 (7 + 3 * i) = nI (B / 2 ^ i % 2) from hB3 i hi8]
      have c2 : f_X6_get (nI i) (nI 2) σ = some (sA σ 5 i, σ) := by
        rw [m_get (by omega), show 6 + 3 * i + 2 = 8 + 3 * i by omega, show sA σ 76 (8 + 3 * i) = sA σ 5 i from (hk i hi).2.1]
      have hm : ∀ t : Option (Int32 × St), (bd (f_X6_isLock (nI i) σ) (fun r2 σ2 => (if r2 = 0 then some (-2, pA σ2 79 0 (sA σ2 79 0 + 1)) else bd (f_X6_in (nI w).toInt64 0 5 σ2) (fun r14 σ14 => if r14 = 0 then some (-2, pA σ14 79 0 (sA σ14 79 0 + 1)) else t)))) = t := by
        intro t
        rw [m_isLock hA, bd_s, if_pos hc, if_neg (by decide), m_inI (nI w) 0 5 0 5 rfl rfl, bd_s, if_pos hc2, if_neg (by decide)]
      rcases (show w = 0 ∨ w = 1 ∨ w = 2 ∨ w = 3 ∨ w = 4 ∨ w = 5 by omega) with rfl | rfl | rfl | rfl | rfl | rfl
      · refine ⟨_, _, _, rfl, ?_, h⟩
        rw [m_isLock hA, bd_s, if_pos hc, if_neg (by decide), m_inI (nI 0) 0 5 0 5 rfl rfl, bd_s, if_pos hc2, if_neg (by decide), c0, bd_s, if_neg (by decide), if_neg (by decide), if_neg (by decide), show nI 0 = 0 from rfl, c0, bd_s]
      · rw [if_neg (by decide), if_pos (by decide), e_standsOf hB hB8 hi8, bd_s]
        refine ⟨_, _, _, rfl, ?_, h⟩
        rw [m_isLock hA, bd_s, if_pos hc, if_neg (by decide), m_inI (nI 1) 0 5 0 5 rfl rfl, bd_s, if_pos hc2, if_neg (by decide), c0, bd_s, if_neg (by decide), if_neg (by decide), if_neg (by decide), c1, bd_s]
      · rw [if_neg (by decide), if_neg (by decide), if_pos (by decide), e_get (a := 5) (show i < 8 from hi8), bd_s]
        refine ⟨_, _, _, rfl, ?_, h⟩
        rw [m_isLock hA, bd_s, if_pos hc, if_neg (by decide), m_inI (nI 2) 0 5 0 5 rfl rfl, bd_s, if_pos hc2, if_neg (by decide), c0, bd_s, if_neg (by decide), if_neg (by decide), if_neg (by decide), c2, bd_s]
      · rw [if_neg (by decide), if_neg (by decide), if_neg (by decide), if_pos (by decide)]
        refine ⟨_, _, _, rfl, ?_, h⟩
        rw [m_isLock hA, bd_s, if_pos hc, if_neg (by decide), m_inI (nI 3) 0 5 0 5 rfl rfl, bd_s, if_pos hc2, if_neg (by decide), c0, bd_s, if_pos (by decide), show sA σ 76 1 = sI σ 1 1 from b1]
      · rw [if_neg (by decide), if_neg (by decide), if_neg (by decide), if_neg (by decide), if_pos (by decide)]
        refine ⟨_, _, _, rfl, ?_, h⟩
        rw [m_isLock hA, bd_s, if_pos hc, if_neg (by decide), m_inI (nI 4) 0 5 0 5 rfl rfl, bd_s, if_pos hc2, if_neg (by decide), c0, bd_s, if_neg (by decide), if_pos (by decide), show sA σ 76 1 = sI σ 1 1 from b1]
      · rw [if_neg (by decide), if_neg (by decide), if_neg (by decide), if_neg (by decide), if_neg (by decide)]
        refine ⟨_, _, _, rfl, ?_, h⟩
        rw [m_isLock hA, bd_s, if_pos hc, if_neg (by decide), m_inI (nI 5) 0 5 0 5 rfl rfl, bd_s, if_pos hc2, if_neg (by decide), c0, bd_s, if_neg (by decide), if_neg (by decide), if_pos (by decide)]
    · simp only [if_pos hc, if_neg hc2]
      refine ⟨_, _, _, rfl, ?_, h.bad⟩
      rw [m_isLock (show sA (pI σ 0 10 (sI σ 0 10 + 1)) 76 0 = nI L from hA), bd_s, if_pos hc, if_neg (by decide), m_inI y 0 5 0 5 rfl rfl, bd_s, if_neg hc2, if_pos rfl]
  · simp only [if_neg hc]
    refine ⟨_, _, _, rfl, ?_, h.bad⟩
    rw [m_isLock (show sA (pI σ 0 10 (sI σ 0 10 + 1)) 76 0 = nI L from hA), bd_s, if_neg hc, if_pos rfl]
