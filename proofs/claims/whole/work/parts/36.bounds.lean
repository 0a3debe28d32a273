/-! how long a run may be -/
theorem rdy_b (k s : Int32) : ∃ m, m ≤ 8 ∧ rdy k s = nI m := by
  unfold rdy
  repeat' split
  all_goals first | exact ⟨4, by decide, rfl⟩ | exact ⟨8, by decide, rfl⟩ | exact ⟨6, by decide, rfl⟩ | exact ⟨3, by decide, rfl⟩
theorem psd_b (k s : Int32) : ∃ m, m ≤ 9 ∧ psd k s = nI m := by
  unfold psd
  repeat' split
  all_goals first | exact ⟨8, by decide, rfl⟩ | exact ⟨6, by decide, rfl⟩ | exact ⟨9, by decide, rfl⟩
theorem rn_b {L B : Nat} {dn ah st mo : Int32} {k : Nat} {KD RD : Nat → Int32} (hk1 : 1 ≤ k) (hRD : ∀ i, i < L → ∃ m, m ≤ 20 ∧ RD i = nI m) (hmo : ∃ m, m ≤ 10 ∧ mo = nI m) : ∀ j, j ≤ L → ∀ i, i < j → (∃ c, c ≤ 150 * i ∧ (rn L B dn ah st mo k KD RD j).1 i = nI c) ∧ (∃ o, o ≤ 150 * i + 90 ∧ (rn L B dn ah st mo k KD RD j).2.2.1 i = nI o) ∧ (ah ≠ 0 → ∃ d, d ≤ 150 * i + 60 ∧ (rn L B dn ah st mo k KD RD j).2.2.2.1 i = nI d) := by
  intro j
  induction j with
  | zero => intro _ i hi; omega
  | succ j ih =>
    intro hj i hi
    have IH := ih (by omega)
    rw [rn, rn1]
    dsimp only
    generalize hq : rn L B dn ah st mo k KD RD j = q at IH
    obtain ⟨w, hw, ew⟩ := hRD (rb dn L j) (rb_lt (by omega))
    obtain ⟨m, hm, em⟩ := hmo
    generalize KD (lk dn L j) = kd
    generalize rtb dn B (lk dn L j) = rt
    obtain ⟨r, hr, er⟩ := rdy_b kd st
    obtain ⟨p, hp, ep⟩ := psd_b kd st
    by_cases e : i = j
    · subst e
      have hr0 : ∃ r0, r0 ≤ 8 ∧ (if rt = true then (0 : Int32) else rdy kd st) = nI r0 := by
        cases rt
        · exact ⟨r, hr, er⟩
        · exact ⟨0, by decide, rfl⟩
      obtain ⟨r0, hr0, er0⟩ := hr0
      have hC : ∃ c, c ≤ 150 * i ∧ zC (RD (rb dn L i)) i q.2.2.1 = nI c := by
        unfold zC
        by_cases h0 : i = 0
        · exact ⟨0, by omega, by rw [if_pos h0]; rfl⟩
        · obtain ⟨o, ho, eo⟩ := (IH (i - 1) (by omega)).2.1
          exact ⟨o + w, by omega, by rw [if_neg h0, eo, ew, nI_add]⟩
      obtain ⟨c, hc, ec⟩ := hC
      have hD : ah ≠ 0 → ∃ d, d ≤ 150 * i + 60 ∧ zD ah st kd rt (zA ah (RD (rb dn L i)) k i q.1 q.2.2.2.1) = nI d := by
        intro ha
        have hA : ∃ a, a ≤ 150 * i + 50 ∧ zA ah (RD (rb dn L i)) k i q.1 q.2.2.2.1 = nI a := by
          unfold zA
          by_cases h0 : i = 0
          · exact ⟨0, by omega, by rw [if_pos h0]; rfl⟩
          · have hwk : ∃ v, v ≤ 20 ∧ (if ah = 2 then (RD (rb dn L i) + 1) / 2 else RD (rb dn L i)) = nI v := by
              by_cases h2 : ah = 2
              · refine ⟨(w + 1) / 2, by omega, ?_⟩
                rw [if_pos h2, ew, nI_1, show (2 : Int32) = nI 2 from rfl, pk_div (by omega) (by decide) (by decide)]
              · exact ⟨w, hw, by rw [if_neg h2, ew]⟩
            obtain ⟨v, hv, ev⟩ := hwk
            obtain ⟨d1, hd1, ed1⟩ := (IH (i - 1) (by omega)).2.2 ha
            rw [if_neg h0, ev]
            by_cases h1 : i < k
            · exact ⟨d1 + v, by omega, by rw [if_pos h1, ed1, nI_add]⟩
            · obtain ⟨c1, hc1, ec1⟩ := (IH (i - k) (by omega)).1
              rw [if_neg h1, ed1, ec1]
              by_cases h3 : nI d1 < nI c1
              · exact ⟨c1 + v, by omega, by rw [if_pos h3, nI_add]⟩
              · exact ⟨d1 + v, by omega, by rw [if_neg h3, nI_add]⟩
        obtain ⟨a, ha2, ea⟩ := hA
        unfold zD
        exact ⟨a + r0, by omega, by rw [if_neg ha, ea, er0, nI_add]⟩
      generalize hdd : zD ah st kd rt (zA ah (RD (rb dn L i)) k i q.1 q.2.2.2.1) = dd at hD
      have hI : ∃ x, x ≤ 150 * i + 60 ∧ zI ah st kd rt (zC (RD (rb dn L i)) i q.2.2.1) dd = nI x := by
        unfold zI
        by_cases ha : ah = 0
        · exact ⟨c + r0, by omega, by rw [if_pos ha, ec, er0, nI_add]⟩
        · obtain ⟨d, hd, ed⟩ := hD ha
          rw [if_neg ha, ec, er, ed]
          by_cases hz : zK kd rt (nI c) (nI d) = true
          · exact ⟨c + r, by omega, by rw [if_pos hz, nI_add]⟩
          · rw [if_neg hz]
            by_cases h3 : nI c < nI d
            · exact ⟨d, hd, by rw [if_pos h3]⟩
            · exact ⟨c, by omega, by rw [if_neg h3]⟩
      obtain ⟨x, hx, ex⟩ := hI
      refine ⟨⟨c, hc, by rw [pk_us]; exact ec⟩, ⟨x + p + m, by omega, by rw [pk_us, ex, ep, em, nI_add, nI_add]⟩, fun ha => ?_⟩
      obtain ⟨d, hd, ed⟩ := hD ha
      exact ⟨d, hd, by rw [pk_us]; exact ed⟩
    · rw [pk_un e, pk_un e, pk_un e]
      exact IH i (by omega)
theorem rnT_b {L B : Nat} {dn ah st mo : Int32} {k : Nat} {KD RD : Nat → Int32} (hL : L ≤ 8) (hk1 : 1 ≤ k) (hRD : ∀ i, i < L → ∃ m, m ≤ 20 ∧ RD i = nI m) (hmo : ∃ m, m ≤ 10 ∧ mo = nI m) : ∃ t, t ≤ 2000 ∧ rnT L B dn ah st mo k KD RD L = nI t := by
  unfold rnT
  by_cases h0 : L = 0
  · exact ⟨0, by omega, by rw [if_pos h0]; rfl⟩
  · obtain ⟨o, ho, eo⟩ := (rn_b hk1 hRD hmo L (Nat.le_refl _) (L - 1) (by omega)).2.1
    exact ⟨o, by omega, by rw [if_neg h0]; exact eo⟩
