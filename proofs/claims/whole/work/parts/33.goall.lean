/-- one place more -/
theorem Ag.step {σ τ : St} {a1 a2 a3 a4 a5 j : Nat} {L B : Nat} {dn ah st mo : Int32} {k : Nat} {KD RD : Nat → Int32} (hk : 1 ≤ k) {c i o d m w kd : Int32} {rt : Bool} (h : Ag σ a1 a2 a3 a4 a5 j (rn L B dn ah st mo k KD RD j))
    (hkd : kd = KD (lk dn L j)) (hrt : rt = rtb dn B (lk dn L j)) (hw : j ≠ 0 → w = RD (rb dn L j))
    (hc : c = zC w j (sA σ a3)) (hd : d = zD ah st kd rt (zA ah w k j (sA σ a1) (sA σ a4))) (hi : i = zI ah st kd rt c d) (ho : o = i + psd kd st + mo) (hm : m = zM ah kd rt c d)
    (t1 : ∀ n, sA τ a1 n = if n = j then c else sA σ a1 n) (t2 : ∀ n, sA τ a2 n = if n = j then i else sA σ a2 n) (t3 : ∀ n, sA τ a3 n = if n = j then o else sA σ a3 n) (t4 : ∀ n, sA τ a4 n = if n = j then d else sA σ a4 n) (t5 : ∀ n, sA τ a5 n = if n = j then m else sA σ a5 n) :
    Ag τ a1 a2 a3 a4 a5 (j + 1) (rn L B dn ah st mo k KD RD (j + 1)) ∧ (rn L B dn ah st mo k KD RD (j + 1)).2.2.1 j = o ∧ (rn L B dn ah st mo k KD RD (j + 1)).2.2.2.2 j = m := by
  have ec : zC (RD (rb dn L j)) j (rn L B dn ah st mo k KD RD j).2.2.1 = c := by
    rw [hc, zC_c (fun n hn => (h n hn).2.2.1)]
    by_cases h0 : j = 0
    · subst h0; rfl
    · rw [hw h0]
  have ea : zA ah (RD (rb dn L j)) k j (rn L B dn ah st mo k KD RD j).1 (rn L B dn ah st mo k KD RD j).2.2.2.1 = zA ah w k j (sA σ a1) (sA σ a4) := by
    rw [zA_c hk (fun n hn => (h n hn).1) (fun n hn => (h n hn).2.2.2.1)]
    by_cases h0 : j = 0
    · subst h0; rfl
    · rw [hw h0]
  have er : rn L B dn ah st mo k KD RD (j + 1) = (upd (rn L B dn ah st mo k KD RD j).1 j c, upd (rn L B dn ah st mo k KD RD j).2.1 j i, upd (rn L B dn ah st mo k KD RD j).2.2.1 j o, upd (rn L B dn ah st mo k KD RD j).2.2.2.1 j d, upd (rn L B dn ah st mo k KD RD j).2.2.2.2 j m) := by
    rw [rn, rn1]
    simp only [ec, ea, ← hkd, ← hrt, ← hd, ← hi, ← ho, ← hm]
  rw [er]
  refine ⟨fun n hn => ?_, pk_us, pk_us⟩
  show sA τ a1 n = upd _ j c n ∧ sA τ a2 n = upd _ j i n ∧ sA τ a3 n = upd _ j o n ∧ sA τ a4 n = upd _ j d n ∧ sA τ a5 n = upd _ j m n
  by_cases e : n = j
  · subst e
    rw [t1, t2, t3, t4, t5]
    simp [upd]
  · rw [t1, t2, t3, t4, t5, if_neg e, if_neg e, if_neg e, if_neg e, if_neg e, pk_un e, pk_un e, pk_un e, pk_un e, pk_un e]
    exact h n (by omega)
theorem go_loop {L B : Nat} {dn ah st mo : Int32} {k : Nat} {KD RD : Nat → Int32} : ∀ (n j : Nat) (σ : St), L - j < n → j ≤ L → Tq σ L B dn ah st mo k KD RD → Ag σ 63 65 67 69 71 j (rn L B dn ah st mo k KD RD j) → sI σ 61 7 = rnT L B dn ah st mo k KD RD j → sI σ 61 8 = rnW L B dn ah st mo k KD RD j →
    ∃ τ, f_X4_go_12 n (nI j) σ = some (rnT L B dn ah st mo k KD RD L, τ) ∧ Ts σ τ ∧ Ag τ 63 65 67 69 71 L (rn L B dn ah st mo k KD RD L) ∧ sI τ 61 7 = rnT L B dn ah st mo k KD RD L ∧ sI τ 61 8 = rnW L B dn ah st mo k KD RD L := by
  intro n
  induction n with
  | zero => intro j σ h; omega
  | succ n ih =>
    intro j σ hn hj hT hA h7 h8
    obtain ⟨hL, hL8, hB, hB8, hdn, hd, hah, hk, hk1, hk9, hst, hmo, hK⟩ := id hT
    rw [f_X4_go_12, hL]
    by_cases he : j = L
    · subst he
      rw [if_pos (nI_le (Nat.le_refl _) (by omega)), h7]
      exact ⟨σ, rfl, Ts.rf, hA, h7, h8⟩
    · have hlt : j < L := by omega
      rw [if_neg (nI_ge hlt (by omega)), hdn, e_lockAt hd hL hlt, bd_s, e_get (a := 3) (show lk dn L j < 8 from Nat.lt_of_lt_of_le (lk_lt hlt) hL8), bd_s, (hK _ (lk_lt hlt)).1]
      have key : ∃ w : Int32, (j ≠ 0 → w = RD (rb dn L j)) ∧ (if nI j = 0 then f_X4_go_59 (f_X4_go_12 n) (nI j) (nI (lk dn L j)) (KD (lk dn L j)) 0 σ else bd (f_X0_roadBehind_1 (sI σ 61 0) (nI j - 1) σ) (fun r56 σ56 => f_X4_go_59 (f_X4_go_12 n) (nI j) (nI (lk dn L j)) (KD (lk dn L j)) r56 σ56)) = f_X4_go_59 (f_X4_go_12 n) (nI j) (nI (lk dn L j)) (KD (lk dn L j)) w σ := by
        by_cases h0 : j = 0
        · subst h0
          exact ⟨0, fun h => absurd rfl h, by rw [if_pos nI_0]⟩
        · refine ⟨RD (rb dn L j), fun _ => rfl, ?_⟩
          rw [if_neg (nI_ne0 (by omega) (by omega)), hdn, e_roadBehind hd hL hL8 h0 hlt, bd_s, (hK _ (rb_lt hlt)).2]
      obtain ⟨w, hw, e1⟩ := key
      rw [e1]
      obtain ⟨τ, e2, hTs, e7, e8, hTw⟩ := go_59 (rc := f_X4_go_12 n) (i := lk dn L j) (kd := KD (lk dn L j)) (w := w) hT (show j < 8 by omega) (Nat.lt_of_lt_of_le (lk_lt hlt) hL8)
      rw [e2]
      obtain ⟨hA', ho, hm⟩ := Ag.step (τ := τ) hk1 hA rfl rfl hw rfl rfl rfl rfl rfl (fun n => by rw [hTw]; simp) (fun n => by rw [hTw]; simp) (fun n => by rw [hTw]; simp) (fun n => by rw [hTw]; simp) (fun n => by rw [hTw]; simp)
      obtain ⟨υ, e3, hT2, hA2, q7, q8⟩ := ih (j + 1) τ (by omega) (by omega) (hT.moved hTs) hA' (by rw [e7]; unfold rnT; rw [if_neg (by omega), Nat.add_sub_cancel, ho]) (by rw [e8, h8, rnW, hm])
      exact ⟨υ, e3, hTs.tr hT2, hA2, q7, q8⟩
theorem FU_lt {n : Nat} (h : n < 1000) : n < FU := h
/-- Trip.go -/
theorem e_go {L B : Nat} {dn ah st mo : Int32} {k : Nat} {KD RD : Nat → Int32} {σ : St} (hT : Tq σ L B dn ah st mo k KD RD) : ∃ τ, f_X4_go σ = some (rnT L B dn ah st mo k KD RD L, τ) ∧ Ts σ τ ∧ Ag τ 63 65 67 69 71 L (rn L B dn ah st mo k KD RD L) ∧ sI τ 61 7 = rnT L B dn ah st mo k KD RD L ∧ sI τ 61 8 = rnW L B dn ah st mo k KD RD L := by
  have hTs : Ts σ (pI (pI σ 61 7 0) 61 8 0) := ⟨fun k b h => by simp [sI_pI, h], fun b h => by simp only [sI_pI]; rw [if_neg (by omega), if_neg (by omega)], fun _ _ => rfl, fun _ _ _ => rfl⟩
  unfold f_X4_go
  have hL8 := hT.2.1
  obtain ⟨τ, e, h1, h2, h3, h4⟩ := go_loop FU 0 (pI (pI σ 61 7 0) 61 8 0) (FU_lt (by omega)) (Nat.zero_le L) (hT.moved hTs) (fun i hi => absurd hi (Nat.not_lt_zero i)) rfl rfl
  exact ⟨τ, e, hTs.tr h1, h2, h3, h4⟩
