def Rm (σ τ : St) : Prop := (∀ k j, (k ≠ 1 ∨ j ≠ 6) → sI τ k j = sI σ k j) ∧ (∀ k j, sL τ k j = sL σ k j) ∧ ∀ k, k ≠ 11 → k ≠ 13 → k ≠ 15 → ∀ j, sA τ k j = sA σ k j
theorem e_rem36 {σ : St} {u : Nat} (hu : u < 8) (h6 : sI σ 1 6 = nI u) : f_X0_remember_1_36 σ = some (pI (pA (pA (pA σ 11 u (sI σ 1 2)) 13 u (sI σ 1 3)) 15 u (sI σ 1 4)) 1 6 (nI (u + 1))) := by
  unfold f_X0_remember_1_36
  rw [h6, e_put (a := 11) (show u < 8 from hu), bv_s, show sI (pA σ 11 u (sI σ 1 2)) 1 6 = nI u from h6, e_put (a := 13) (show u < 8 from hu), bv_s, show sI (pA (pA σ 11 u (sI σ 1 2)) 13 u (sI (pA σ 11 u (sI σ 1 2)) 1 3)) 1 6 = nI u from h6, e_put (a := 15) (show u < 8 from hu), bv_s, show sI (pA (pA (pA σ 11 u (sI σ 1 2)) 13 u (sI (pA σ 11 u (sI σ 1 2)) 1 3)) 15 u (sI (pA (pA σ 11 u (sI σ 1 2)) 13 u (sI (pA σ 11 u (sI σ 1 2)) 1 3)) 1 4)) 1 6 = nI u from h6, nI_1]
  rfl
theorem Rm36 {σ : St} {u : Nat} : Rm σ (pI (pA (pA (pA σ 11 u (sI σ 1 2)) 13 u (sI σ 1 3)) 15 u (sI σ 1 4)) 1 6 (nI (u + 1))) := by
  refine ⟨fun k j h => ?_, fun k j => rfl, fun k h1 h2 h3 j => ?_⟩
  · rw [sI_pI, if_neg (by omega)]; rfl
  · simp only [sA_pI, sA_pA]
    rw [if_neg (by omega), if_neg (by omega), if_neg (by omega)]
theorem rem_push {σ : St} {L rd u : Nat} {a : Nat → Int32} (hu : u < 8) (h : FRx L rd u (gN σ) (rN σ) a) : FRx L rd (u + 1) (gN (pI (pA (pA (pA σ 11 u (sI σ 1 2)) 13 u (sI σ 1 3)) 15 u (sI σ 1 4)) 1 6 (nI (u + 1)))) (rN (pI (pA (pA (pA σ 11 u (sI σ 1 2)) 13 u (sI σ 1 3)) 15 u (sI σ 1 4)) 1 6 (nI (u + 1)))) (kp1 u a) := by
  refine FRx.push h hu (fun j hj => ?_) rfl (fun q i hq => ?_) (fun i hi => ?_) (fun i hi => ?_) (fun i hi => ?_)
  · show sI _ 1 j = _
    rw [sI_pI, if_neg (fun q => hj q.2)]; rfl
  · show sA _ (1 + 2 + 2 * q) i = sA σ (1 + 2 + 2 * q) i
    simp only [sA_pI, sA_pA]
    rw [if_neg (by omega), if_neg (by omega), if_neg (by omega)]
  · show (if 11 = 15 ∧ i = u then sI σ 1 4 else if 11 = 13 ∧ i = u then sI σ 1 3 else if 11 = 11 ∧ i = u then sI σ 1 2 else sA σ 11 i) = _
    simp
  · show (if 13 = 15 ∧ i = u then sI σ 1 4 else if 13 = 13 ∧ i = u then sI σ 1 3 else if 13 = 11 ∧ i = u then sI σ 1 2 else sA σ 13 i) = _
    simp
  · show (if 15 = 15 ∧ i = u then sI σ 1 4 else if 15 = 13 ∧ i = u then sI σ 1 3 else if 15 = 11 ∧ i = u then sI σ 1 2 else sA σ 15 i) = _
    simp
theorem e_remember {σ : St} {L rd un : Nat} {a : Nat → Int32} (h : FRx L rd un (gN σ) (rN σ) a) : ∃ τ un2, f_X0_remember_1 σ = some τ ∧ Rm σ τ ∧ FRx L rd un2 (gN τ) (rN τ) (if un = 8 then kp1 7 (kp0 a) else kp1 un a) := by
  have h6 : sI σ 1 6 = nI un := h.2.2.2.2.2.2.2.2.2.2.1
  have hun : un ≤ 8 := h.2.2.1
  unfold f_X0_remember_1
  rw [h6]
  by_cases he : un = 8
  · subst he
    rw [if_neg (by decide), e_dropFirst (a := 11) rfl, bv_s, e_dropFirst (a := 13) rfl, bv_s, e_dropFirst (a := 15) rfl, bv_s, if_pos rfl]
    generalize hτ : pI (sR (sR (sR σ 11 (fun m => if m < 7 then sA σ 11 (m + 1) else sA σ 11 m)) 13 (fun m => if m < 7 then sA (sR σ 11 (fun m => if m < 7 then sA σ 11 (m + 1) else sA σ 11 m)) 13 (m + 1) else sA (sR σ 11 (fun m => if m < 7 then sA σ 11 (m + 1) else sA σ 11 m)) 13 m)) 15 (fun m => if m < 7 then sA (sR (sR σ 11 (fun m => if m < 7 then sA σ 11 (m + 1) else sA σ 11 m)) 13 (fun m => if m < 7 then sA (sR σ 11 (fun m => if m < 7 then sA σ 11 (m + 1) else sA σ 11 m)) 13 (m + 1) else sA (sR σ 11 (fun m => if m < 7 then sA σ 11 (m + 1) else sA σ 11 m)) 13 m)) 15 (m + 1) else sA (sR (sR σ 11 (fun m => if m < 7 then sA σ 11 (m + 1) else sA σ 11 m)) 13 (fun m => if m < 7 then sA (sR σ 11 (fun m => if m < 7 then sA σ 11 (m + 1) else sA σ 11 m)) 13 (m + 1) else sA (sR σ 11 (fun m => if m < 7 then sA σ 11 (m + 1) else sA σ 11 m)) 13 m)) 15 m)) 1 6 7 = τ
    have hR : Rm σ τ := by
      rw [← hτ]
      refine ⟨fun k j h => ?_, fun k j => rfl, fun k h1 h2 h3 j => ?_⟩
      · rw [sI_pI, if_neg (by omega)]; rfl
      · rw [sA_pI, sR_o _ _ _ _ _ h3, sR_o _ _ _ _ _ h2, sR_o _ _ _ _ _ h1]
    have hF : FRx L rd 7 (gN τ) (rN τ) (kp0 a) := by
      refine FRx.drop h (fun j hj => hR.1 1 j (Or.inr hj)) (by rw [← hτ]; rfl) (fun q i hq => hR.2.2 _ (by omega) (by omega) (by omega) i) (fun q i h4 h7 hi => ?_)
      rcases (show q = 4 ∨ q = 5 ∨ q = 6 by omega) with rfl | rfl | rfl
      · show sA τ 11 i = sA σ 11 (i + 1)
        rw [← hτ, sA_pI, sR_o _ _ _ _ _ (by decide), sR_o _ _ _ _ _ (by decide), sR_at, if_pos hi]
      · show sA τ 13 i = sA σ 13 (i + 1)
        rw [← hτ, sA_pI, sR_o _ _ _ _ _ (by decide), sR_at, if_pos hi, sR_o _ _ _ _ _ (by decide)]
      · show sA τ 15 i = sA σ 15 (i + 1)
        rw [← hτ, sA_pI, sR_at, if_pos hi, sR_o _ _ _ _ _ (by decide), sR_o _ _ _ _ _ (by decide)]
    have h6' : sI τ 1 6 = nI 7 := by rw [← hτ]; rfl
    refine ⟨_, 8, e_rem36 (by decide) h6', ?_, rem_push (by decide) hF⟩
    have h2 := Rm36 (σ := τ) (u := 7)
    exact ⟨fun k j q => (h2.1 k j q).trans (hR.1 k j q), fun k j => (h2.2.1 k j).trans (hR.2.1 k j), fun k q1 q2 q3 j => (h2.2.2 k q1 q2 q3 j).trans (hR.2.2 k q1 q2 q3 j)⟩
  · rw [if_pos (show nI un < 8 from nI_lt (b := 8) (by omega) (by decide)), if_neg he]
    exact ⟨_, un + 1, e_rem36 (by omega) h6, Rm36, rem_push (by omega) h⟩
theorem xr_1 : ∀ i, i < 8 → ∀ B, B < 256 → nI B ^^^ ((1 : Int32) <<< (nI i &&& 31)) = nI (B ^^^ 2 ^ i) := by decide +kernel
theorem xr_2 : ∀ i, i < 8 → ∀ B, B < 256 → ∀ j, j < 8 → (B ^^^ 2 ^ i) / 2 ^ j % 2 = if j = i then 1 - B / 2 ^ i % 2 else B / 2 ^ j % 2 := by decide +kernel
theorem xr_3 : ∀ L, L ≤ 8 → ∀ i, i < L → ∀ B, B < 256 → B < 2 ^ L → B ^^^ 2 ^ i < 2 ^ L := by decide +kernel
theorem xr_4 : ∀ b, b < 2 → nI b ^^^ 1 = nI (1 - b) := by decide +kernel
theorem eq_turn {σ : St} (h : JJ σ) (x : Int32) : EQI (f_X5_turn x) (f_X6_turn x) σ := by
  obtain ⟨L, rd, un, hx⟩ := h.1.x
  have hL : sI σ 1 0 = nI L := hx.2.2.2.1
  have hA : sA σ 76 0 = nI L := hx.2.2.2.2.1
  have hL8 : L ≤ 8 := hx.1
  unfold EQI f_X5_turn f_X6_turn f_X5_refusedBad f_X6_bad
  simp only [e_has hL, bd_s, if10]
  by_cases hc : 0 ≤ x ∧ x ≤ nI L - 1
  · obtain ⟨i, hi, rfl⟩ := (has_iff hL8).mp hc
    have hi8 : i < 8 := by omega
    simp only [if_pos hc]
    obtain ⟨τ, un2, e1, hR, hF⟩ := e_remember hx
    rw [e1, bv_s]
    generalize ha1 : (if un = 8 then kp1 7 (kp0 (sA σ 76)) else kp1 un (sA σ 76)) = a1 at hF
    obtain ⟨-, hrd6, hun2, q0, b0, b1, b2, b3, q5, b4, q6, b5, hk, ⟨B, hB, hB2, hB3⟩, hr, hu⟩ := id hF
    have hB8 : B < 256 := Nat.lt_of_lt_of_le hB2 (two_le hL8)
    have hBτ : sI τ 1 2 = nI B := hB
    rw [hBτ, xr_1 i hi8 B hB8, e_standsOf (B := B ^^^ 2 ^ i) (σ := pI τ 1 2 (nI (B ^^^ 2 ^ i))) rfl (Nat.lt_of_lt_of_le (xr_3 L hL8 i hi B hB8 hB2) (two_le hL8)) hi8, bd_s, xr_2 i hi8 B hB8 i hi8, if_pos rfl]
    generalize hυ : pI τ 1 2 (nI (B ^^^ 2 ^ i)) = υ
    have hAυ : ∀ n, sA υ 76 n = sA σ 76 n := fun n => by rw [← hυ, sA_pI]; exact hR.2.2 76 (by decide) (by decide) (by decide) n
    have hAf : sA υ 76 = sA σ 76 := funext hAυ
    have h5 : sA υ 76 5 = nI un := (hAυ 5).trans hx.2.2.2.2.2.2.2.2.2.2.2.1
    have k0 : ∀ {m : Nat}, m < 122 → ¬ (nI m < 0 ∨ 122 ≤ m) := by
      intro m hm
      rintro (q | q)
      · exact nI_pos (by omega) q
      · omega
    have e7 : (6 : Int32) + 3 * nI i + 1 = nI (7 + 3 * i) := by
      rw [show (6 : Int32) = nI 6 from rfl, show (3 : Int32) = nI 3 from rfl, pk_mul, nI_add, nI_1]; congr 1; omega
    have hb7 : a1 (7 + 3 * i) = nI (B / 2 ^ i % 2) := hB3 i hi8
    refine ⟨nI (1 - B / 2 ^ i % 2), υ, sR υ 76 (upd a1 (7 + 3 * i) (nI (1 - B / 2 ^ i % 2))), rfl, ?_, ?_⟩
    · rw [m_isLock ((hAυ 0).trans hA), bd_s, if_pos hc, if_neg (by decide), m_keep hx.2.2.1 h5, bv_s, hAf, ha1, e7, nI_c (by omega), gd_ok (k0 (by omega)), gd_ok (k0 (by omega)), sR_pA, sR_at, hb7, xr_4 _ (Nat.mod_lt _ (by decide)), show (1 : Int32) = nI 1 from rfl, m_get (by omega), bd_s, sR_at, show 6 + 3 * i + 1 = 7 + 3 * i by omega, pk_us]
    · refine h.now (FS.of (L := L) (rd := rd) (un := un2) (FRx.set (B' := B ^^^ 2 ^ i) hF (Nat.le_refl _) ?_ ?_ ?_ ?_ ?_ ?_ ?_ ?_ ?_ ?_ ?_ ?_)) ?_ ?_ ?_ ?_ ?_ ?_ ?_
      · rw [← hυ]; rfl
      · rw [← hυ]; rfl
      · rw [← hυ]; rfl
      · rw [← hυ]; exact q6
      · intro q j hq
        show sA (sR υ 76 _) (1 + 2 + 2 * q) j = _
        rw [sR_o _ _ _ _ _ (by omega), ← hυ]; rfl
      · rw [sR_at, pk_un (by omega)]; exact b5
      · rw [← hυ]; rfl
      · exact xr_3 L hL8 i hi B hB8 hB2
      · intro j hj
        rw [sR_at, xr_2 i hi8 B hB8 j hj]
        by_cases e : j = i
        · subst e
          rw [pk_us, if_pos rfl]
        · rw [pk_un (by omega), if_neg e]
          exact hB3 j hj
      · rw [sR_at, pk_un (by omega), ← hυ]; exact b2
      · rw [sR_at, pk_un (by omega), ← hυ]; exact b3
      · intro n n2 n3 n5 n7
        rw [sR_at, pk_un (n7 i hi8)]
      · intro b; rw [sR_I, ← hυ]; exact hR.1 0 b (Or.inl (by decide))
      · intro k h1 h2 b
        rw [sR_I, ← hυ, sI_pI, if_neg (by omega)]; exact hR.1 k b (by omega)
      · intro k b; rw [sR_L, ← hυ]; exact hR.2.1 k b
      · intro k h1 h2 b
        rw [sR_o _ _ _ _ _ (by omega), ← hυ, sA_pI]; exact hR.2.2 k (by omega) (by omega) (by omega) b
      · rw [sR_I, ← hυ]; exact hR.1 72 0 (by decide)
      · rw [sR_I, ← hυ]; exact hR.1 75 15 (by decide)
      · intro k hk b
        rw [sR_o _ _ _ _ _ (by omega), ← hυ, sA_pI]; exact hR.2.2 k (by omega) (by omega) (by omega) b
  · simp only [if_neg hc]
    refine ⟨_, _, _, rfl, ?_, h.bad⟩
    rw [m_isLock (show sA (pI σ 0 10 (sI σ 0 10 + 1)) 76 0 = nI L from hA), bd_s, if_neg hc, if_pos rfl]
