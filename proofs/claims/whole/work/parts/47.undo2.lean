def ud (u : Nat) (a : Nat → Int32) (n : Nat) : Int32 := if n = 5 then nI u else if n = 2 then a (50 + 10 * u) else if n = 3 then a (51 + 10 * u) else if 7 ≤ n ∧ n ≤ 28 ∧ n % 3 = 1 then a (42 + 10 * u + (n - 7) / 3) else a n
theorem m_undo_39 (σ : St) (F : Nat → Int32) (u : Nat) (hu : u < 8) (h5 : F 5 = nI u) : ∀ (n i : Nat), 8 - i < n → i ≤ 8 → f_X6_undo_39 n (nI (42 + 10 * u)) (nI i) (sR σ 76 (fun m => if 7 ≤ m ∧ m < 7 + 3 * i ∧ m % 3 = 1 then F (42 + 10 * u + (m - 7) / 3) else F m)) = some (F (50 + 10 * u), sR σ 76 (ud u F)) := by
  intro n
  induction n with
  | zero => intro i h; omega
  | succ n ih =>
    intro i hn hi
    have k0 : ∀ {m : Nat}, m < 122 → ¬ (nI m < 0 ∨ 122 ≤ m) := by
      intro m hm
      rintro (q | q)
      · exact nI_pos (by omega) q
      · omega
    rw [f_X6_undo_39]
    by_cases he : i = 8
    · subst he
      have e8 : nI (42 + 10 * u) + 8 = nI (50 + 10 * u) := by
        rw [show (8 : Int32) = nI 8 from rfl, nI_add]; congr 1; omega
      have e9 : nI (42 + 10 * u) + 9 = nI (51 + 10 * u) := by
        rw [show (9 : Int32) = nI 9 from rfl, nI_add]; congr 1; omega
      rw [if_pos (by decide), e8, e9, nI_c (by omega), nI_c (by omega), gd_ok (k0 (by omega)), gd_ok (k0 (by omega))]
      simp only [sR_pA, sR_at]
      rw [if_neg (by omega)]
      congr 3
      funext m
      unfold upd ud
      try dsimp only
      by_cases h1 : m = 3
      · rw [if_pos h1, if_neg (by omega), if_neg (by omega), if_neg (by omega), if_neg (by omega), if_pos h1]
      · rw [if_neg h1]
        by_cases h2 : m = 2
        · rw [if_pos h2, if_neg (by omega), if_pos h2]
        · rw [if_neg h2]
          by_cases h3 : m = 5
          · rw [if_neg (by omega), if_pos h3, h3, h5]
          · rw [if_neg h3, if_neg h2, if_neg h1]
            by_cases h4 : 7 ≤ m ∧ m < 7 + 3 * 8 ∧ m % 3 = 1
            · rw [if_pos h4, if_pos (by omega)]
            · rw [if_neg h4, if_neg (by omega)]
    · have e7 : (6 : Int32) + 3 * nI i + 1 = nI (7 + 3 * i) := by
        rw [show (6 : Int32) = nI 6 from rfl, show (3 : Int32) = nI 3 from rfl, pk_mul, nI_add, nI_1]; congr 1; omega
      rw [if_neg (show ¬ (8 : Int32) ≤ nI i from nI_ge (b := 8) (by omega) (by decide)), e7, nI_add, nI_c (by omega), nI_c (by omega), gd_ok (k0 (by omega)), gd_ok (k0 (by omega)), sR_pA, sR_at, if_neg (by omega), nI_1]
      have e : upd (fun m => if 7 ≤ m ∧ m < 7 + 3 * i ∧ m % 3 = 1 then F (42 + 10 * u + (m - 7) / 3) else F m) (7 + 3 * i) (F (42 + 10 * u + i)) = (fun m => if 7 ≤ m ∧ m < 7 + 3 * (i + 1) ∧ m % 3 = 1 then F (42 + 10 * u + (m - 7) / 3) else F m) := by
        funext m
        unfold upd
        try dsimp only
        by_cases h1 : m = 7 + 3 * i
        · rw [if_pos h1, if_pos (by omega)]
          congr 1; omega
        · rw [if_neg h1]
          by_cases h2 : 7 ≤ m ∧ m < 7 + 3 * i ∧ m % 3 = 1
          · rw [if_pos h2, if_pos (by omega)]
          · rw [if_neg h2, if_neg (by omega)]
      rw [e]
      exact ih (i + 1) (by omega) (by omega)
theorem eq_undo {σ : St} (h : JJ σ) : EQI f_X5_undo f_X6_undo σ := by
  obtain ⟨L, rd, un, hx⟩ := h.1.x
  obtain ⟨hL8, hrd6, hun, q0, b0, b1, b2, b3, q5, b4, q6, b5, hk, ⟨B, hB, hB2, hB3⟩, hr, hu⟩ := id hx
  have h6 : sI σ 1 6 = nI un := q6
  have h5 : sA σ 76 5 = nI un := b5
  unfold EQI f_X5_undo f_X6_undo f_X5_refusedNo f_X6_no
  rw [h6]
  by_cases h0 : un = 0
  · subst h0
    rw [if_pos nI_0, bd_s]
    refine ⟨_, _, _, rfl, ?_, h.no⟩
    rw [show sA (pI σ 0 11 (sI σ 0 11 + 1)) 76 5 = nI 0 from h5, if_pos nI_0, bd_s]
  · obtain ⟨u, rfl⟩ : ∃ u, un = u + 1 := ⟨un - 1, by omega⟩
    have hu8 : u < 8 := by omega
    obtain ⟨w1, w2, B', hB', hB2', hB3'⟩ := hu u (by omega)
    rw [if_neg (nI_ne0 (by omega) (by omega))]
    have e1 : f_X0_goBack_1 σ = some (pI (pI (pI (pI σ 1 6 (nI u)) 1 2 (sA σ 11 u)) 1 3 (sA σ 13 u)) 1 4 (sA σ 15 u)) := by
      unfold f_X0_goBack_1
      rw [h6, nI_pred, e_get (a := 11) (show u < 8 from hu8), bd_s, show sI (pI σ 1 6 (nI u)) 1 6 = nI u from rfl, e_get (a := 13) (show u < 8 from hu8), bd_s]
      have f1 : sI (pI (pI σ 1 6 (nI u)) 1 2 (sA (pI σ 1 6 (nI u)) 11 u)) 1 6 = nI u := rfl
      rw [f1, e_get (a := 15) (show u < 8 from hu8), bd_s]
      rfl
    rw [e1, bv_s]
    generalize hτ : pI (pI (pI (pI σ 1 6 (nI u)) 1 2 (sA σ 11 u)) 1 3 (sA σ 13 u)) 1 4 (sA σ 15 u) = τ
    have hAf : sA τ 76 = sA σ 76 := by rw [← hτ]; rfl
    refine ⟨sA σ 13 u, τ, sR τ 76 (ud u (sA σ 76)), ?_, ?_, ?_⟩
    · rw [← hτ]; rfl
    · have h5τ : sA τ 76 5 = nI (u + 1) := by rw [hAf]; exact h5
      rw [h5τ, if_neg (nI_ne0 (by omega) (by omega)), nI_pred, show (42 : Int32) + 10 * nI u = nI (42 + 10 * u) by rw [show (42 : Int32) = nI 42 from rfl, show (10 : Int32) = nI 10 from rfl, pk_mul, nI_add]]
      have hl := m_undo_39 τ (upd (sA σ 76) 5 (nI u)) u hu8 pk_us FU 0 (FU_lt (by omega)) (by omega)
      have e2 : (fun m => if 7 ≤ m ∧ m < 7 + 3 * 0 ∧ m % 3 = 1 then upd (sA σ 76) 5 (nI u) (42 + 10 * u + (m - 7) / 3) else upd (sA σ 76) 5 (nI u) m) = upd (sA σ 76) 5 (nI u) := by
        funext m
        rw [if_neg (by omega)]
      have e3 : pA τ 76 5 (nI u) = sR τ 76 (upd (sA σ 76) 5 (nI u)) := by rw [← hAf, ← sR_pA, sR_self]
      have e4 : ud u (upd (sA σ 76) 5 (nI u)) = ud u (sA σ 76) := by
        funext m
        unfold ud
        by_cases g1 : m = 5
        · rw [if_pos g1, if_pos g1]
        · rw [if_neg g1, if_neg g1, pk_un (by omega), pk_un (by omega), pk_un (by omega), pk_un g1]
      rw [e2, e4, pk_un (by omega)] at hl
      rw [e3, show (0 : Int32) = nI 0 from rfl, hl, show sA σ 76 (50 + 10 * u) = sA σ 13 u from w1]
    · refine h.now (FS.of (L := L) (rd := rd) (un := u) (FRx.set (B' := B') hx (by omega) ?_ ?_ ?_ ?_ ?_ ?_ ?_ hB2' ?_ ?_ ?_ ?_)) ?_ ?_ ?_ ?_ ?_ ?_ ?_
      · rw [← hτ]; rfl
      · rw [← hτ]; rfl
      · rw [← hτ]; rfl
      · rw [← hτ]; rfl
      · intro q j hq
        show sA (sR τ 76 _) (1 + 2 + 2 * q) j = _
        rw [sR_o _ _ _ _ _ (by omega), ← hτ]; rfl
      · rw [sR_at]; rfl
      · rw [← hτ]; exact hB'
      · intro j hj
        rw [sR_at]
        unfold ud
        rw [if_neg (by omega), if_neg (by omega), if_neg (by omega), if_pos (by omega), show 42 + 10 * u + (7 + 3 * j - 7) / 3 = 42 + 10 * u + j by omega]
        exact hB3' j hj
      · rw [sR_at, ← hτ]
        show ud u (sA σ 76) 2 = sA σ 13 u
        unfold ud
        rw [if_neg (by decide), if_pos rfl]
        exact w1
      · rw [sR_at, ← hτ]
        show ud u (sA σ 76) 3 = sA σ 15 u
        unfold ud
        rw [if_neg (by decide), if_neg (by decide), if_pos rfl]
        exact w2
      · intro n n2 n3 n5 n7
        rw [sR_at]
        unfold ud
        rw [if_neg n5, if_neg n2, if_neg n3, if_neg]
        intro hq
        exact n7 ((n - 7) / 3) (by omega) (by omega)
      · intro b; rw [sR_I, ← hτ]; rfl
      · intro k h1 h2 b
        rw [sR_I, ← hτ]
        simp only [sI_pI]
        simp [show k ≠ 1 by omega]
      · intro k b; rw [sR_L, ← hτ]; rfl
      · intro k h1 h2 b
        rw [sR_o _ _ _ _ _ (by omega), ← hτ]; rfl
      · rw [sR_I, ← hτ]; rfl
      · rw [sR_I, ← hτ]; rfl
      · intro k hk b
        rw [sR_o _ _ _ _ _ (by omega), ← hτ]; rfl
