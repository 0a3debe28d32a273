theorem zC_c {w : Int32} {j : Nat} {O P : Nat → Int32} (h : ∀ i, i < j → O i = P i) : zC w j O = zC w j P := by
  unfold zC
  by_cases h0 : j = 0
  · rw [if_pos h0, if_pos h0]
  · rw [if_neg h0, if_neg h0, h (j - 1) (by omega)]
theorem zA_c {ah w : Int32} {k j : Nat} {C D E F : Nat → Int32} (hk : 1 ≤ k) (h1 : ∀ i, i < j → C i = E i) (h2 : ∀ i, i < j → D i = F i) : zA ah w k j C D = zA ah w k j E F := by
  unfold zA
  by_cases h0 : j = 0
  · rw [if_pos h0, if_pos h0]
  · rw [if_neg h0, if_neg h0, h2 (j - 1) (by omega)]
    by_cases hj : j < k
    · rw [if_pos hj, if_pos hj]
    · rw [if_neg hj, if_neg hj, h1 (j - k) (by omega)]
theorem zC_0 {w v : Int32} {O : Nat → Int32} : zC w 0 O = zC v 0 O := rfl
theorem zA_0 {ah w v : Int32} {k : Nat} {C D : Nat → Int32} : zA ah w k 0 C D = zA ah v k 0 C D := rfl
/-- the state behind one place -/
theorem go_59 {rc : Int32 → St → Option (Int32 × St)} {L B : Nat} {dn ah st mo : Int32} {k : Nat} {KD RD : Nat → Int32} {j i : Nat} {kd w : Int32} {σ : St} (hT : Tq σ L B dn ah st mo k KD RD) (hj : j < 8) (hi : i < 8) :
    ∃ τ, f_X4_go_59 rc (nI j) (nI i) kd w σ = rc (nI (j + 1)) τ ∧ Ts σ τ ∧
      sI τ 61 7 = zI ah st kd (rtb dn B i) (zC w j (sA σ 67)) (zD ah st kd (rtb dn B i) (zA ah w k j (sA σ 63) (sA σ 69))) + psd kd st + mo ∧
      sI τ 61 8 = sI σ 61 8 + (1 + zM ah kd (rtb dn B i) (zC w j (sA σ 67)) (zD ah st kd (rtb dn B i) (zA ah w k j (sA σ 63) (sA σ 69)))) ∧
      Tw σ τ 63 j (zC w j (sA σ 67)) (zI ah st kd (rtb dn B i) (zC w j (sA σ 67)) (zD ah st kd (rtb dn B i) (zA ah w k j (sA σ 63) (sA σ 69)))) (zI ah st kd (rtb dn B i) (zC w j (sA σ 67)) (zD ah st kd (rtb dn B i) (zA ah w k j (sA σ 63) (sA σ 69))) + psd kd st + mo) (zD ah st kd (rtb dn B i) (zA ah w k j (sA σ 63) (sA σ 69))) (zM ah kd (rtb dn B i) (zC w j (sA σ 67)) (zD ah st kd (rtb dn B i) (zA ah w k j (sA σ 63) (sA σ 69)))) := by
  obtain ⟨hL, hL8, hB, hB8, hdn, hd, hah, hk, hk1, hk9, hst, hmo, hK⟩ := hT
  have e8 : ∀ {n : Nat}, n < 8 → n < ln 63 ∧ n < ln 65 ∧ n < ln 67 ∧ n < ln 69 ∧ n < ln 71 := fun h => ⟨h, h, h, h, h⟩
  unfold f_X4_go_59
  rw [e_isRight hB hB8 hi hdn, bd_s, e_rdy, bd_s, hst]
  generalize hrt : rtb dn B i = rt
  -- the word 'made', and when it comes
  have s1 : (if (if rt = true then (1 : Int32) else 0) = 0 then f_X4_go_94 rc (nI j) kd w (if rt = true then 1 else 0) (rdy kd st) 1 (nI j) σ else f_X4_go_94 rc (nI j) kd w (if rt = true then 1 else 0) (rdy kd st) 0 (nI j) σ) = f_X4_go_123 rc (nI j) kd w (if rt = true then 1 else 0) (rdy kd st) (zC w j (sA σ 67)) (nI j) (pA σ 71 j (if rt = true then 0 else 1)) := by
    have h94 : ∀ t : Int32, f_X4_go_94 rc (nI j) kd w (if rt = true then 1 else 0) (rdy kd st) t (nI j) σ = f_X4_go_123 rc (nI j) kd w (if rt = true then 1 else 0) (rdy kd st) (zC w j (sA σ 67)) (nI j) (pA σ 71 j t) := by
      intro t
      unfold f_X4_go_94 zC
      rw [e_put (a := 71) (show j < 8 from hj), bv_s]
      by_cases h0 : j = 0
      · subst h0; rw [if_pos nI_0, if_pos rfl]
      · rw [if_neg (nI_ne0 (by omega) (by omega)), if_neg h0, show nI j - 1 = nI (j - 1) by rw [show (1 : Int32) = nI 1 from rfl, pk_sub (by omega)], e_get (a := 67) (show j - 1 < 8 by omega), bd_s]
        rfl
    cases rt
    · rw [if_pos (by decide), h94]; rfl
    · rw [if_neg (by decide), h94]; rfl
  rw [s1]
  generalize hc : zC w j (sA σ 67) = c
  unfold f_X4_go_123
  rw [e_put (a := 63) (show j < 8 from hj), bv_s]
  have f1 : sI (pA (pA σ 71 j (if rt = true then 0 else 1)) 63 j c) 61 1 = ah := hah
  rw [f1]
  by_cases ha : ah = 0
  · -- nobody ahead
    subst ha
    rw [if_pos rfl, e_put (a := 69) (show j < 8 from hj), bv_s, e_get (a := 63) (show j < 8 from hj), bd_s]
    have g1 : sA (pA (pA (pA σ 71 j (if rt = true then 0 else 1)) 63 j c) 69 j (-1)) 63 j = c := by simp [sA_pA]
    rw [g1]
    have s2 : (if (if rt = true then (1 : Int32) else 0) = 0 then f_X4_go_166 rc (nI j) kd (rdy kd st) c (nI j) (pA (pA (pA σ 71 j (if rt = true then 0 else 1)) 63 j c) 69 j (-1)) else f_X4_go_166 rc (nI j) kd 0 c (nI j) (pA (pA (pA σ 71 j (if rt = true then 0 else 1)) 63 j c) 69 j (-1))) = f_X4_go_166 rc (nI j) kd (if rt = true then 0 else rdy kd st) c (nI j) (pA (pA (pA σ 71 j (if rt = true then 0 else 1)) 63 j c) 69 j (-1)) := by
      cases rt
      · rw [if_pos (by decide)]; rfl
      · rw [if_neg (by decide)]; rfl
    rw [s2]
    unfold f_X4_go_166
    rw [e_put (a := 65) (show j < 8 from hj), bv_s, go_212 hj]
    refine ⟨_, rfl, ⟨?_, ?_, ?_, ?_⟩, ?_, ?_, ?_⟩
    · intro a b h; simp [sI_pI, sI_pA, h]
    · intro b h
      simp only [sI_pI, sI_pA]
      rw [if_neg (by omega), if_neg (by omega)]
    · intro a b; rfl
    · intro a h b
      simp only [sA_pI, sA_pA]
      repeat rw [if_neg (by omega)]
    · simp only [sI_pI, sI_pA, sA_pA]
      simp [zI, hst, hmo]
    · simp only [sI_pI, sI_pA, sA_pA]
      simp [zM]
    · intro a b
      simp only [sI_pI, sI_pA, sA_pI, sA_pA, zI, zM, zD, hst, hmo]
      by_cases hb : b = j
      · subst hb
        by_cases q1 : a = 63
        · subst q1; simp
        · by_cases q2 : a = 65
          · subst q2; simp
          · by_cases q3 : a = 67
            · subst q3; simp
            · by_cases q4 : a = 69
              · subst q4; simp
              · by_cases q5 : a = 71
                · subst q5; simp
                · simp [q1, q2, q3, q4, q5]
      · simp [hb]
  · rw [if_neg ha, e_aheadComes f1 hk hk1 hk9 hj, bd_s]
    have za : zA ah w k j (sA (pA (pA σ 71 j (if rt = true then 0 else 1)) 63 j c) 63) (sA (pA (pA σ 71 j (if rt = true then 0 else 1)) 63 j c) 69) = zA ah w k j (sA σ 63) (sA σ 69) := by
      refine zA_c hk1 (fun n hn => ?_) (fun n hn => ?_)
      · simp only [sA_pA]; rw [if_neg (by omega), if_neg (by omega)]
      · simp only [sA_pA]; rw [if_neg (by omega), if_neg (by omega)]
    rw [za]
    have s2 : (if (if rt = true then (1 : Int32) else 0) = 0 then f_X4_go_196 rc (nI j) kd (rdy kd st) (rdy kd st) (zA ah w k j (sA σ 63) (sA σ 69)) (nI j) (pA (pA σ 71 j (if rt = true then 0 else 1)) 63 j c) else f_X4_go_196 rc (nI j) kd (rdy kd st) 0 (zA ah w k j (sA σ 63) (sA σ 69)) (nI j) (pA (pA σ 71 j (if rt = true then 0 else 1)) 63 j c)) = f_X4_go_196 rc (nI j) kd (rdy kd st) (if rt = true then 0 else rdy kd st) (zA ah w k j (sA σ 63) (sA σ 69)) (nI j) (pA (pA σ 71 j (if rt = true then 0 else 1)) 63 j c) := by
      cases rt
      · rw [if_pos (by decide)]; rfl
      · rw [if_neg (by decide)]; rfl
    rw [s2]
    generalize hac : zA ah w k j (sA σ 63) (sA σ 69) = ac
    unfold f_X4_go_196
    rw [e_put (a := 69) (show j < 8 from hj), bv_s, e_sty, bd_s]
    have hd1 : zD ah st kd rt ac = ac + (if rt = true then 0 else rdy kd st) := by unfold zD; rw [if_neg ha]
    rw [← hd1]
    generalize hdd : zD ah st kd rt ac = dd
    have m1 : sA (pA (pA (pA σ 71 j (if rt = true then 0 else 1)) 63 j c) 69 j dd) 71 j = if rt = true then 0 else 1 := by simp [sA_pA]
    have m2 : sA (pA (pA (pA σ 71 j (if rt = true then 0 else 1)) 63 j c) 69 j dd) 63 j = c := by simp [sA_pA]
    have m3 : sA (pA (pA (pA σ 71 j (if rt = true then 0 else 1)) 63 j c) 69 j dd) 69 j = dd := by simp [sA_pA]
    rw [e_enterBehind hj m1, bv_s, m2, m3, go_212 hj]
    have hzi : zI ah st kd rt c dd = if zK kd rt c dd then c + rdy kd st else (if c < dd then dd else c) := by unfold zI; rw [if_neg ha]
    have hzm : zM ah kd rt c dd = if zK kd rt c dd then 2 else (if rt then 0 else 1) := by unfold zM; rw [if_neg ha]
    rw [hzi, hzm]
    by_cases hz : zK kd rt c dd = true
    · rw [if_pos hz, if_pos hz, if_pos hz]
      refine ⟨_, rfl, ⟨?_, ?_, ?_, ?_⟩, ?_, ?_, ?_⟩
      · intro a b h; simp [sI_pI, sI_pA, h]
      · intro b h
        simp only [sI_pI, sI_pA]
        rw [if_neg (by omega), if_neg (by omega)]
      · intro a b; rfl
      · intro a h b
        simp only [sA_pI, sA_pA]
        repeat rw [if_neg (by omega)]
      · simp only [sI_pI, sI_pA, sA_pA]
        simp [hst, hmo]
      · simp only [sI_pI, sI_pA, sA_pA]
        simp
      · intro a b
        simp only [sI_pI, sI_pA, sA_pI, sA_pA, hst, hmo]
        by_cases hb : b = j
        · subst hb
          by_cases q1 : a = 63
          · subst q1; simp
          · by_cases q2 : a = 65
            · subst q2; simp
            · by_cases q3 : a = 67
              · subst q3; simp
              · by_cases q4 : a = 69
                · subst q4; simp
                · by_cases q5 : a = 71
                  · subst q5; simp
                  · simp [q1, q2, q3, q4, q5]
        · simp [hb]
    · rw [if_neg hz, if_neg hz, if_neg hz]
      refine ⟨_, rfl, ⟨?_, ?_, ?_, ?_⟩, ?_, ?_, ?_⟩
      · intro a b h; simp [sI_pI, sI_pA, h]
      · intro b h
        simp only [sI_pI, sI_pA]
        rw [if_neg (by omega), if_neg (by omega)]
      · intro a b; rfl
      · intro a h b
        simp only [sA_pI, sA_pA]
        repeat rw [if_neg (by omega)]
      · simp only [sI_pI, sI_pA, sA_pA]
        simp [hst, hmo]
      · simp only [sI_pI, sI_pA, sA_pA]
        simp
      · intro a b
        simp only [sI_pI, sI_pA, sA_pI, sA_pA, hst, hmo]
        by_cases hb : b = j
        · subst hb
          by_cases q1 : a = 63
          · subst q1; simp
          · by_cases q2 : a = 65
            · subst q2; simp
            · by_cases q3 : a = 67
              · subst q3; simp
              · by_cases q4 : a = 69
                · subst q4; simp
                · by_cases q5 : a = 71
                  · subst q5; simp
                  · simp [q1, q2, q3, q4, q5]
        · simp [hb]
