theorem has_iff {x : Int32} {L : Nat} (hL : L ≤ 8) : (0 ≤ x ∧ x ≤ nI L - 1) ↔ ∃ i, i < L ∧ x = nI i := by
  constructor
  · intro h
    rcases Nat.eq_zero_or_pos L with h0 | h0
    · subst h0
      exfalso
      have h1 : (0 : Int32) ≤ nI 0 - 1 := Int32.le_trans h.1 h.2
      exact absurd h1 (by decide)
    · rw [show nI L - 1 = nI (L - 1) by rw [show (1 : Int32) = nI 1 from rfl, pk_sub (by omega)]] at h
      obtain ⟨j, hj, e⟩ := i_of (n := L - 1) (nI_toInt (by omega)) h
      exact ⟨j, by omega, e⟩
  · rintro ⟨i, hi, rfl⟩
    rw [show nI L - 1 = nI (L - 1) by rw [show (1 : Int32) = nI 1 from rfl, pk_sub (by omega)]]
    exact ⟨nI_pos' (by omega), nI_le (by omega) (by omega)⟩
theorem e_has {σ : St} {L : Nat} (hL : sI σ 1 0 = nI L) (x : Int32) : f_X0_has_1 x σ = some (if 0 ≤ x ∧ x ≤ nI L - 1 then 1 else 0, σ) := by
  unfold f_X0_has_1
  rw [e_within, bd_s, hL, gb10]
theorem m_isLock {σ : St} {L : Nat} (hL : sA σ 76 0 = nI L) (x : Int32) : f_X6_isLock x σ = some (if 0 ≤ x ∧ x ≤ nI L - 1 then 1 else 0, σ) := by
  unfold f_X6_isLock f_X6_locks
  rw [bd_s, hL, m_inI x 0 (nI L - 1) 0 _ rfl rfl, bd_s, gb10]
theorem or_bit : ∀ L, L < 8 → ∀ B, B < 128 → B < 2 ^ L → ∀ s, s < 2 → nI B ||| (nI s <<< (nI L &&& 31)) = nI (B + s * 2 ^ L) := by decide +kernel
theorem or_bits : ∀ L, L < 8 → ∀ B, B < 128 → B < 2 ^ L → ∀ s, s < 2 → ∀ i, i < 8 → (B + s * 2 ^ L) / 2 ^ i % 2 = if i = L then s else B / 2 ^ i % 2 := by decide +kernel
theorem two_le {L : Nat} (h : L ≤ 8) : 2 ^ L ≤ 256 := Nat.pow_le_pow_right (by decide) h
theorem FRx.lock {L rd un : Nat} {g g' : Nat → Int32} {r r' : Nat → Nat → Int32} {a a' : Nat → Int32} {kd : Int32} {s w : Nat} (h : FRx L rd un g r a) (hL : L < 8) (hs : s < 2) (hw : w ≤ 20)
    (g0 : g' 0 = nI (L + 1)) (g1 : g' 1 = g 1) (g2 : g' 2 = g 2 ||| (nI s <<< (nI L &&& 31))) (g3 : g' 3 = g 3) (g4 : g' 4 = g 4) (g5 : g' 5 = g 5) (g6 : g' 6 = 0)
    (r0 : ∀ i, r' 0 i = if i = L then kd else r 0 i) (r1 : ∀ i, r' 1 i = if i = L then nI w else r 1 i) (r2 : ∀ i, r' 2 i = r 2 i) (r3 : ∀ i, r' 3 i = r 3 i)
    (h0 : a' 0 = nI (L + 1)) (h5 : a' 5 = 0) (h6 : a' (6 + 3 * L) = kd) (h7 : a' (7 + 3 * L) = nI s) (h8 : a' (8 + 3 * L) = nI w) (ho : ∀ n, n ≠ 0 → n ≠ 5 → (n < 6 + 3 * L ∨ 8 + 3 * L < n) → a' n = a n) : FRx (L + 1) rd 0 g' r' a' := by
  obtain ⟨hL8, hrd, hun, q0, b0, b1, b2, b3, q5, b4, q6, b5, hk, ⟨B, hB, hB2, hB3⟩, hr, hu⟩ := h
  have hB8 : B < 128 := Nat.lt_of_lt_of_le hB2 (Nat.pow_le_pow_right (n := 2) (by decide) (show L ≤ 7 by omega))
  refine ⟨by omega, hrd, by decide, g0, h0, ?_, ?_, ?_, by rw [g5]; exact q5, ?_, g6, h5, fun i hi => ?_, ⟨B + s * 2 ^ L, ?_, ?_, fun i hi => ?_⟩, fun j hj => ?_, fun u hu' => absurd hu' (Nat.not_lt_zero u)⟩
  · rw [ho 1 (by decide) (by decide) (by omega), g1]; exact b1
  · rw [ho 2 (by decide) (by decide) (by omega), g3]; exact b2
  · rw [ho 3 (by decide) (by decide) (by omega), g4]; exact b3
  · rw [ho 4 (by decide) (by decide) (by omega)]; exact b4
  · rw [r0, r1]
    by_cases e : i = L
    · rw [if_pos e, if_pos e, e, h6, h8]
      exact ⟨rfl, rfl, w, hw, rfl⟩
    · rw [if_neg e, if_neg e, ho _ (by omega) (by omega) (by omega), ho _ (by omega) (by omega) (by omega)]
      exact hk i (by omega)
  · rw [g2, hB, or_bit L hL B hB8 hB2 s hs]
  · rw [Nat.pow_succ]
    have : s * 2 ^ L ≤ 1 * 2 ^ L := Nat.mul_le_mul_right _ (by omega)
    omega
  · show a' (7 + 3 * i) = _
    rw [or_bits L hL B hB8 hB2 s hs i hi]
    by_cases e : i = L
    · rw [if_pos e, e, h7]
    · rw [if_neg e, ho _ (by omega) (by omega) (by omega)]
      exact hB3 i hi
  · rw [r2, r3, ho _ (by omega) (by omega) (by omega), ho _ (by omega) (by omega) (by omega)]
    obtain ⟨p1, p2, p, hp, hp2⟩ := hr j hj
    exact ⟨p1, p2, p, by omega, hp2⟩
theorem m_layLock {σ : St} {L : Nat} (hL : sA σ 76 0 = nI L) (hL8 : L < 8) (kd s w : Int32) : f_X6_layLock_76 kd s w σ = some (sR σ 76 (fun n => if n = 0 then nI (L + 1) else if n = 6 + 3 * L then kd else if n = 7 + 3 * L then s else if n = 8 + 3 * L then w else sA σ 76 n)) := by
  unfold f_X6_layLock_76
  have e0 : (6 : Int32) + 3 * nI L + 0 = nI (6 + 3 * L) := by
    rw [show (6 : Int32) = nI 6 from rfl, show (3 : Int32) = nI 3 from rfl, show (0 : Int32) = nI 0 from rfl, pk_mul, nI_add, nI_add]; rfl
  have e1 : (6 : Int32) + 3 * nI L + 1 = nI (7 + 3 * L) := by
    rw [show (6 : Int32) = nI 6 from rfl, show (3 : Int32) = nI 3 from rfl, pk_mul, nI_add, nI_1]; congr 1; omega
  have e2 : (6 : Int32) + 3 * nI L + 2 = nI (8 + 3 * L) := by
    rw [show (6 : Int32) = nI 6 from rfl, show (3 : Int32) = nI 3 from rfl, show (2 : Int32) = nI 2 from rfl, pk_mul, nI_add, nI_add]; congr 1; omega
  rw [hL, e0, e1, e2, nI_c (by omega), nI_c (by omega), nI_c (by omega)]
  have k0 : ∀ {m : Nat}, m < 122 → ¬ (nI m < 0 ∨ 122 ≤ m) := by
    intro m hm
    rintro (q | q)
    · exact nI_pos (by omega) q
    · omega
  rw [gd_ok (k0 (by omega)), gd_ok (k0 (by omega)), gd_ok (k0 (by omega))]
  have e3 : sA (pA (pA (pA σ 76 (6 + 3 * L) kd) 76 (7 + 3 * L) s) 76 (8 + 3 * L) w) 76 0 = nI L := by
    rw [sA_pA, if_neg (by omega), sA_pA, if_neg (by omega), sA_pA, if_neg (by omega), hL]
  rw [e3, nI_1]
  have e4 : pA (pA (pA (pA σ 76 (6 + 3 * L) kd) 76 (7 + 3 * L) s) 76 (8 + 3 * L) w) 76 0 (nI (L + 1)) = sR σ 76 (upd (upd (upd (upd (sA σ 76) (6 + 3 * L) kd) (7 + 3 * L) s) (8 + 3 * L) w) 0 (nI (L + 1))) := by
    rw [← sR_pA, ← sR_pA, ← sR_pA, ← sR_pA, sR_self]
  rw [e4]
  congr 2
  funext n
  unfold upd
  by_cases h0 : n = 0
  · rw [if_pos h0, if_pos h0]
  · rw [if_neg h0, if_neg h0]
    by_cases h1 : n = 6 + 3 * L
    · rw [if_neg (by omega), if_neg (by omega), if_pos h1, if_pos h1]
    · by_cases h2 : n = 7 + 3 * L
      · rw [if_neg (by omega), if_pos h2, if_neg h1, if_pos h2]
      · by_cases h3 : n = 8 + 3 * L
        · rw [if_pos h3, if_neg h1, if_neg h2, if_pos h3]
        · rw [if_neg h3, if_neg h2, if_neg h1, if_neg h1, if_neg h2, if_neg h3]
theorem eq_lock {σ : St} (h : JJ σ) (x y z : Int32) : EQI (f_X5_lock x y z) (f_X6_lock x y z) σ := by
  unfold EQI f_X5_lock f_X6_lock f_X5_refusedBad f_X6_bad f_X5_refusedFull f_X6_full f_X6_locks
  simp only [e_within, m_inI x 0 5 0 5 rfl rfl, m_inI y 0 1 0 1 rfl rfl, m_inI z 1 20 1 20 rfl rfl, bd_s, if10]
  by_cases hc : 0 ≤ x ∧ x ≤ 5
  · by_cases hc2 : 0 ≤ y ∧ y ≤ 1
    · by_cases hc3 : 1 ≤ z ∧ z ≤ 20
      · simp only [if_pos hc, if_pos hc2, if_pos hc3]
        obtain ⟨s, hs, rfl⟩ := i_of (n := 1) rfl hc2
        obtain ⟨w, hw, rfl⟩ := i_of (x := z) (n := 20) rfl ⟨Int32.le_trans (by decide) hc3.1, hc3.2⟩
        obtain ⟨L, rd, un, hx⟩ := h.1.x
        have hL : sI σ 1 0 = nI L := hx.2.2.2.1
        have hA : sA σ 76 0 = nI L := hx.2.2.2.2.1
        have hL8 : L ≤ 8 := hx.1
        rw [hL]
        by_cases hf : L = 8
        · subst hf
          rw [if_neg (by decide)]
          refine ⟨_, _, _, rfl, ?_, h.full⟩
          rw [show sA (pI σ 0 12 (sI σ 0 12 + 1)) 76 0 = nI 8 from hA, if_pos (by decide)]
        · have hlt : L < 8 := by omega
          rw [if_pos (show nI L < 8 from nI_lt hlt (by decide))]
          have e1 : f_X0_addLock_1 x (nI s) (nI w) σ = some (pI (pI (pI (pA (pA σ 3 L x) 5 L (nI w)) 1 2 (sI σ 1 2 ||| (nI s <<< (nI L &&& 31)))) 1 0 (nI (L + 1))) 1 6 0) := by
            unfold f_X0_addLock_1
            rw [hL, e_put (a := 3) (show L < 8 from hlt), bv_s, show sI (pA σ 3 L x) 1 0 = nI L from hL, e_put (a := 5) (show L < 8 from hlt), bv_s, show sI (pA (pA σ 3 L x) 5 L (nI w)) 1 0 = nI L from hL, nI_1]
            rfl
          rw [e1, bv_s]
          generalize hτ : pI (pI (pI (pA (pA σ 3 L x) 5 L (nI w)) 1 2 (sI σ 1 2 ||| (nI s <<< (nI L &&& 31)))) 1 0 (nI (L + 1))) 1 6 0 = τ
          have hAτ : sA τ 76 0 = nI L := by rw [← hτ]; exact hA
          have hLτ : sI τ 1 0 = nI (L + 1) := by rw [← hτ]; rfl
          refine ⟨nI L, τ, sR τ 76 (fun n => if n = 0 then nI (L + 1) else if n = 5 then 0 else if n = 6 + 3 * L then x else if n = 7 + 3 * L then nI s else if n = 8 + 3 * L then nI w else sA τ 76 n), ?_, ?_, ?_⟩
          · rw [hLτ, nI_pred]
          · rw [hAτ, if_neg (show ¬ nI L = 8 from fun e => hf ((nI_eq (b := 8) (by omega) (by decide)).mp e)), m_layLock hAτ hlt, bv_s, sR_pA, sR_at]
            have e5 : upd (fun n => if n = 0 then nI (L + 1) else if n = 6 + 3 * L then x else if n = 7 + 3 * L then nI s else if n = 8 + 3 * L then nI w else sA τ 76 n) 5 0 = (fun n => if n = 0 then nI (L + 1) else if n = 5 then 0 else if n = 6 + 3 * L then x else if n = 7 + 3 * L then nI s else if n = 8 + 3 * L then nI w else sA τ 76 n) := by
              funext n
              unfold upd
              dsimp only
              by_cases h5 : n = 5
              · rw [if_pos h5, if_neg (by omega), if_pos h5]
              · rw [if_neg h5]
                by_cases h0 : n = 0
                · rw [if_pos h0]
                  simp [h0]
                · rw [if_neg h0, if_neg h0, if_neg h5]
            rw [e5]
            show some (nI (L + 1) - 1, _) = _
            rw [nI_pred]
          · refine h.now (FS.of (L := L + 1) (rd := rd) (un := 0) (FRx.lock (kd := x) (w := w) hx hlt (show s < 2 by omega) hw ?_ ?_ ?_ ?_ ?_ ?_ ?_ ?_ ?_ ?_ ?_ ?_ ?_ ?_ ?_ ?_ ?_)) ?_ ?_ ?_ ?_ ?_ ?_ ?_
            · exact hLτ
            · rw [← hτ]; rfl
            · rw [← hτ]; rfl
            · rw [← hτ]; rfl
            · rw [← hτ]; rfl
            · rw [← hτ]; rfl
            · rw [← hτ]; rfl
            · intro i
              show sA (sR τ 76 _) 3 i = _
              rw [sR_o _ _ _ _ _ (by decide), ← hτ]
              show (if 3 = 5 ∧ i = L then nI w else if 3 = 3 ∧ i = L then x else sA σ 3 i) = _
              simp
            · intro i
              show sA (sR τ 76 _) 5 i = _
              rw [sR_o _ _ _ _ _ (by decide), ← hτ]
              show (if 5 = 5 ∧ i = L then nI w else if 5 = 3 ∧ i = L then x else sA σ 5 i) = _
              simp
            · intro i
              show sA (sR τ 76 _) 7 i = _
              rw [sR_o _ _ _ _ _ (by decide), ← hτ]; rfl
            · intro i
              show sA (sR τ 76 _) 9 i = _
              rw [sR_o _ _ _ _ _ (by decide), ← hτ]; rfl
            · rw [sR_at, if_pos rfl]
            · rw [sR_at, if_neg (by decide), if_pos rfl]
            · rw [sR_at, if_neg (by omega), if_neg (by omega), if_pos rfl]
            · rw [sR_at, if_neg (by omega), if_neg (by omega), if_neg (by omega), if_pos rfl]
            · rw [sR_at, if_neg (by omega), if_neg (by omega), if_neg (by omega), if_neg (by omega), if_pos rfl]
            · intro n n0 n5 hn
              rw [sR_at, if_neg n0, if_neg n5, if_neg (by omega), if_neg (by omega), if_neg (by omega), ← hτ]; rfl
            · intro b; rw [sR_I, ← hτ]; rfl
            · intro k h1 h2 b
              rw [sR_I, ← hτ]
              simp only [sI_pI, sI_pA]
              simp [show k ≠ 1 by omega]
            · intro k b; rw [sR_L, ← hτ]; rfl
            · intro k h1 h2 b
              rw [sR_o _ _ _ _ _ (by omega), ← hτ]
              simp only [sA_pI, sA_pA]
              simp [show k ≠ 3 by omega, show k ≠ 5 by omega]
            · rw [sR_I, ← hτ]; rfl
            · rw [sR_I, ← hτ]; rfl
            · intro k hk b
              rw [sR_o _ _ _ _ _ (by omega), ← hτ]
              simp only [sA_pI, sA_pA]
              simp [show k ≠ 3 by omega, show k ≠ 5 by omega]
      · simp only [if_pos hc, if_pos hc2, if_neg hc3]
        exact ⟨_, _, _, rfl, rfl, h.bad⟩
    · simp only [if_pos hc, if_neg hc2]
      exact ⟨_, _, _, rfl, rfl, h.bad⟩
  · simp only [if_neg hc]
    exact ⟨_, _, _, rfl, rfl, h.bad⟩
