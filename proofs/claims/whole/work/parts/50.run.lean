theorem m_runNowM {σ : St} {L B : Nat} {st : Int32} {KD RD : Nat → Int32} (h2 : L ≤ 8) (h8 : sA σ 76 0 = nI L) (h9 : sA σ 76 1 = st) (h10 : ∀ i, i < 8 → sA σ 76 (7 + 3 * i) = nI (B / 2 ^ i % 2)) (h11 : ∀ i, i < L → sA σ 76 (6 + 3 * i) = KD i ∧ sA σ 76 (8 + 3 * i) = RD i) {dn ah sh : Int32} {k : Nat} (hd : dn = 0 ∨ dn = 1) (hah : ah = 0 ∨ ah = 1 ∨ ah = 2) (hk1 : 1 ≤ k) (hk9 : k ≤ 9) : ∃ τ, f_X6_runNow dn ah (nI k) sh σ = some (rnT L B dn ah st (2 * sh) k KD RD L, τ) ∧ Mr σ τ ∧ Ag τ 81 82 83 84 85 L (rn L B dn ah st (2 * sh) k KD RD L) := by
  have hq : Mq (sR (pI σ 75 12 (sA σ 76 1)) 80 (fun m => if m < 8 then sA σ 76 (7 + 3 * m) else sA σ 80 m)) L B st KD RD := by
    refine ⟨h8, h2, h9, fun i hi => ?_, fun i hi => ?_⟩
    · rw [sR_at, if_pos (by omega)]; exact h10 i (by omega)
    · rw [sR_o _ _ _ _ _ (by decide), sR_o _ _ _ _ _ (by decide)]; exact h11 i hi
  obtain ⟨τ, e, hm, ha⟩ := m_go (mo := 2 * sh) hd hah hk1 hk9 hq
  unfold f_X6_runNow
  rw [m_layHand, bv_s, e, bd_s]
  exact ⟨τ, rfl, (Mr.hand σ).tr hm.Mr, ha⟩
theorem m_run_loop (σ : St) (F : Nat → Int32) (L : Nat) (hL8 : L ≤ 8) (h0 : F 0 = nI L) (dn r : Int32) : ∀ (n j : Nat), L - j < n → j ≤ L → f_X6_run_69 n dn r (nI j) (sR σ 76 (fun m => if 7 ≤ m ∧ m < 7 + 3 * j ∧ m % 3 = 1 then 1 - dn else F m)) = some (r, sR σ 76 (fun m => if 7 ≤ m ∧ m < 7 + 3 * L ∧ m % 3 = 1 then 1 - dn else F m)) := by
  intro n
  induction n with
  | zero => intro j h; omega
  | succ n ih =>
    intro j hn hj
    have z0 : sA (sR σ 76 (fun m => if 7 ≤ m ∧ m < 7 + 3 * j ∧ m % 3 = 1 then 1 - dn else F m)) 76 0 = nI L := by
      rw [sR_at, if_neg (by omega), h0]
    rw [f_X6_run_69, f_X6_locks, bd_s, z0]
    by_cases he : j = L
    · subst he
      rw [if_pos (nI_le (Nat.le_refl _) (by omega))]
    · have e7 : (6 : Int32) + 3 * nI j + 1 = nI (7 + 3 * j) := by
        rw [show (6 : Int32) = nI 6 from rfl, show (3 : Int32) = nI 3 from rfl, pk_mul, nI_add, nI_1]; congr 1; omega
      rw [if_neg (nI_ge (show j < L by omega) (by omega)), e7, nI_c (by omega), gd_ok (by
        rintro (q | q)
        · exact nI_pos (by omega) q
        · omega), sR_pA, nI_1]
      have e : upd (fun m => if 7 ≤ m ∧ m < 7 + 3 * j ∧ m % 3 = 1 then 1 - dn else F m) (7 + 3 * j) (1 - dn) = (fun m => if 7 ≤ m ∧ m < 7 + 3 * (j + 1) ∧ m % 3 = 1 then 1 - dn else F m) := by
        funext m
        unfold upd
        dsimp only
        by_cases h1 : m = 7 + 3 * j
        · rw [if_pos h1, if_pos (by omega)]
        · rw [if_neg h1]
          by_cases h2 : 7 ≤ m ∧ m < 7 + 3 * j ∧ m % 3 = 1
          · rw [if_pos h2, if_pos (by omega)]
          · rw [if_neg h2, if_neg (by omega)]
      rw [e]
      exact ih (j + 1) (by omega) (by omega)
theorem all_1 : ∀ L, L ≤ 8 → (1 : Int32) <<< (nI L &&& 31) - 1 = nI (2 ^ L - 1) := by decide +kernel
theorem all_2 : ∀ L, L ≤ 8 → ∀ i, i < 8 → (2 ^ L - 1) / 2 ^ i % 2 = if i < L then 1 else 0 := by decide +kernel
theorem bit_hi {B L i : Nat} (h : B < 2 ^ L) (hi : L ≤ i) : B / 2 ^ i % 2 = 0 := by
  rw [Nat.div_eq_of_lt (Nat.lt_of_lt_of_le h (Nat.pow_le_pow_right (by decide) hi))]
theorem eq_run {σ : St} (h : JJ σ) (d a k s : Int32) : EQI (f_X5_run d a k s) (f_X6_run d a k s) σ := by
  unfold EQI f_X5_run f_X6_run f_X5_refusedBad f_X6_bad
  simp only [e_isRun, m_isRun, m_inI s 0 1 0 1 rfl rfl, bd_s, if10]
  by_cases h1 : QR d a k
  · by_cases h2 : 0 ≤ s ∧ s ≤ 1
    · simp only [if_pos h1, if_pos h2, if_pos (And.intro h1 h2)]
      obtain ⟨hd, hah, n, hn1, hn9, rfl⟩ := QR.get h1
      obtain ⟨L, rd, un, hx⟩ := h.1.x
      obtain ⟨hL8, hrd6, hun, q0, b0, b1, b2, b3, q5, b4, q6, b5, hk, ⟨B, hB, hB2, hB3⟩, hr, hu⟩ := id hx
      have hri : RI σ L B (sI σ 1 1) (sA σ 3) (sA σ 5) := ⟨q0, hL8, hB, hB2, rfl, fun i hi => ⟨rfl, rfl⟩, fun i hi => (hk i hi).2.2, b0, b1, hB3, fun i hi => ⟨(hk i hi).1, (hk i hi).2.1⟩⟩
      generalize hst : sI σ 1 1 = st at hri
      generalize hKD : sA σ 3 = KD at hri
      generalize hRD : sA σ 5 = RD at hri
      obtain ⟨τ, e1, hT, hq, ha, h7, h8, t6, t3⟩ := c_run hri (ah := a) (sh := s) hd hn1 hn9
      rw [e1]
      generalize hmn : rnT L B d a st (2 * s) n KD RD L = mn at h7
      generalize hwt : rnW L B d a st (2 * s) n KD RD L = wt at h8
      have gτ : ∀ j, sI τ 1 j = sI σ 1 j := fun j => hT.1 1 j (by decide)
      have aτ : ∀ j, sA τ 76 j = sA σ 76 j := fun j => hT.2.2 76 (by decide) j
      have aτf : sA τ 76 = sA σ 76 := funext aτ
      have hxτ : FRx L rd un (gN τ) (rN τ) (sA σ 76) := by
        have e : gN τ = gN σ := funext gτ
        have e2 : ∀ q j, q < 7 → rN τ q j = rN σ q j := fun q j hq => hT.2.2 _ (by omega) j
        obtain ⟨L', rd', un', hz⟩ : FR (gN τ) (rN τ) (sA σ 76) := FR.congr (g := gN σ) (r := rN σ) (a := sA σ 76) ⟨L, rd, un, hx⟩ (fun j _ => gτ j) (fun q i hq _ => e2 q i hq) (fun n _ => rfl)
        refine ⟨hL8, hrd6, hun, (gτ 0).trans q0, b0, b1.trans (gτ 1).symm, b2.trans (gτ 3).symm, b3.trans (gτ 4).symm, (gτ 5).trans q5, b4, (gτ 6).trans q6, b5, fun i hi => ?_, ⟨B, (gτ 2).trans hB, hB2, hB3⟩, fun j hj => ?_, fun u hu' => ?_⟩
        · rw [e2 0 i (by decide), e2 1 i (by decide)]; exact hk i hi
        · rw [e2 2 j (by decide), e2 3 j (by decide)]; exact hr j hj
        · rw [e2 4 u (by decide), e2 5 u (by decide), e2 6 u (by decide)]; exact hu u hu'
      obtain ⟨ρ, un2, e2, hRm, hF⟩ := e_remember hxτ
      rw [e2, bv_s]
      generalize ha1 : (if un = 8 then kp1 7 (kp0 (sA σ 76)) else kp1 un (sA σ 76)) = a1 at hF
      obtain ⟨-, -, hun2, p0, c0, c1, c2, c3, p5, c4, p6, c5, hk2, ⟨B2, hB1', hB2', hB3'⟩, hr2, hu2⟩ := id hF
      have hdρ : sI ρ 61 0 = d := (hRm.1 61 0 (by decide)).trans hq.2.2.2.2.1
      have hLρ : sI ρ 1 0 = nI L := p0
      have e3 : f_X4_standsBehind ρ = some (nI (if d = 0 then 2 ^ L - 1 else 0), ρ) := by
        unfold f_X4_standsBehind f_X0_allLocks_1
        rw [hdρ, hLρ, all_1 L hL8]
        rcases hd with rfl | rfl
        · rw [if_pos rfl, if_pos rfl, bd_s]
        · rw [if_neg (by decide), if_neg (by decide)]; rfl
      rw [e3, bd_s, (hRm.1 61 7 (by decide)).trans h7, (hRm.1 61 8 (by decide)).trans h8]
      generalize hυ : pI (pI (pI ρ 1 2 (nI (if d = 0 then 2 ^ L - 1 else 0))) 1 3 (sI ρ 1 3 + mn)) 1 4 (sI ρ 1 4 + wt) = υ
      have aυ : ∀ j, sA υ 76 j = sA σ 76 j := fun j => by rw [← hυ]; exact (hRm.2.2 76 (by decide) (by decide) (by decide) j).trans (aτ j)
      have aυf : sA υ 76 = sA σ 76 := funext aυ
      obtain ⟨ω, e4, hMr, hag⟩ := m_runNowM (σ := υ) (st := st) (B := B) (KD := KD) (RD := RD) (sh := s) (ah := a) (k := n) hL8 ((aυ 0).trans b0) ((aυ 1).trans (b1.trans hst)) (fun i hi => (aυ _).trans (hB3 i hi)) (fun i hi => ⟨(aυ _).trans ((hk i hi).1.trans (congrFun hKD i)), (aυ _).trans ((hk i hi).2.1.trans (congrFun hRD i))⟩) hd hah hn1 hn9
      have aω : sA ω 76 = sA σ 76 := by
        funext j
        exact (hMr.2.2 76 (by decide) j).trans (aυ j)
      generalize hA' : (fun m => if 7 ≤ m ∧ m < 7 + 3 * L ∧ m % 3 = 1 then 1 - d else upd (upd a1 2 (a1 2 + mn)) 3 (a1 3 + wt) m) = A'
      refine ⟨mn, υ, sR ω 76 A', rfl, ?_, ?_⟩
      · have hw : f_X6_waterOf (sR ω 76 (upd a1 2 (a1 2 + mn))) = some (wt, sR ω 76 (upd a1 2 (a1 2 + mn))) := by
          rw [← hwt]
          exact m_waterOf hL8 (by rw [sR_at, pk_un (by decide)]; exact c0) (fun i hi => by rw [sR_o _ _ _ _ _ (by decide)]; exact (hag i hi).2.2.2.2)
        rw [e4, bd_s, hmn, m_keep hun (by rw [aω]; exact b5), bv_s, aω, ha1, sR_at, sR_pA, hw, bd_s, sR_pA, sR_at]
        have hl := m_run_loop ω (upd (upd a1 2 (a1 2 + mn)) 3 (a1 3 + wt)) L hL8 (by rw [pk_un (by decide), pk_un (by decide)]; exact c0) d mn FU 0 (FU_lt (by omega)) (by omega)
        have e5 : (fun m => if 7 ≤ m ∧ m < 7 + 3 * 0 ∧ m % 3 = 1 then 1 - d else upd (upd a1 2 (a1 2 + mn)) 3 (a1 3 + wt) m) = upd (upd a1 2 (a1 2 + mn)) 3 (a1 3 + wt) := by
          funext m
          rw [if_neg (by omega)]
        rw [e5, hA'] at hl
        exact hl
      · have hA7 : ∀ i, i < 8 → A' (7 + 3 * i) = nI ((if d = 0 then 2 ^ L - 1 else 0) / 2 ^ i % 2) := by
          intro i hi
          rw [← hA']
          dsimp only
          by_cases hiL : i < L
          · rw [if_pos (by omega)]
            rcases hd with rfl | rfl
            · rw [if_pos rfl, all_2 L hL8 i hi, if_pos hiL]; rfl
            · rw [if_neg (by decide), Nat.zero_div]; rfl
          · rw [if_neg (by omega), pk_un (by omega), pk_un (by omega)]
            have e6 : a1 (7 + 3 * i) = nI (B2 / 2 ^ i % 2) := hB3' i hi
            rw [e6, bit_hi hB2' (by omega)]
            rcases hd with rfl | rfl
            · rw [if_pos rfl, all_2 L hL8 i hi, if_neg hiL]
            · rw [if_neg (by decide), Nat.zero_div]
        have hA2 : A' 2 = a1 2 + mn := by
          rw [← hA']; dsimp only
          rw [if_neg (by omega), pk_un (by decide), pk_us]
        have hA3 : A' 3 = a1 3 + wt := by
          rw [← hA']; dsimp only
          rw [if_neg (by omega), pk_us]
        have hAo : ∀ m, m ≠ 2 → m ≠ 3 → (∀ i, i < 8 → m ≠ 7 + 3 * i) → A' m = a1 m := by
          intro m m2 m3 m7
          rw [← hA']; dsimp only
          rw [if_neg (fun q => m7 ((m - 7) / 3) (by omega) (by omega)), pk_un m3, pk_un m2]
        have gω : ∀ k j, k ≠ 75 → sI (sR ω 76 A') k j = sI υ k j := fun k j hk => hMr.1 k j (Or.inl hk)
        refine h.now (FS.of (L := L) (rd := rd) (un := un2) (FRx.set (B' := if d = 0 then 2 ^ L - 1 else 0) hF (Nat.le_refl _) ?_ ?_ ?_ ?_ ?_ ?_ ?_ ?_ ?_ ?_ ?_ ?_)) ?_ ?_ ?_ ?_ ?_ ?_ ?_
        · rw [show gN (sR ω 76 A') 0 = sI υ 1 0 from gω 1 0 (by decide), ← hυ]; rfl
        · rw [show gN (sR ω 76 A') 1 = sI υ 1 1 from gω 1 1 (by decide), ← hυ]; rfl
        · rw [show gN (sR ω 76 A') 5 = sI υ 1 5 from gω 1 5 (by decide), ← hυ]; rfl
        · rw [show gN (sR ω 76 A') 6 = sI υ 1 6 from gω 1 6 (by decide), ← hυ]; exact p6
        · intro q j hq
          show sA (sR ω 76 _) (1 + 2 + 2 * q) j = _
          rw [sR_o _ _ _ _ _ (by omega), hMr.2.2 _ (by omega), ← hυ]; rfl
        · rw [sR_at, hAo 5 (by decide) (by decide) (fun i hi => by omega)]; exact c5
        · rw [show gN (sR ω 76 A') 2 = sI υ 1 2 from gω 1 2 (by decide), ← hυ]; rfl
        · rcases hd with rfl | rfl
          · rw [if_pos rfl]
            have := Nat.two_pow_pos L
            omega
          · rw [if_neg (by decide)]
            exact Nat.two_pow_pos L
        · intro i hi
          rw [sR_at]; exact hA7 i hi
        · rw [sR_at, show gN (sR ω 76 A') 3 = sI υ 1 3 from gω 1 3 (by decide), ← hυ, hA2, c2]; rfl
        · rw [sR_at, show gN (sR ω 76 A') 4 = sI υ 1 4 from gω 1 4 (by decide), ← hυ, hA3, c3]; rfl
        · intro m m2 m3 m5 m7
          rw [sR_at]; exact hAo m m2 m3 m7
        · intro b; rw [gω 0 b (by decide), ← hυ]; exact (hRm.1 0 b (Or.inl (by decide))).trans (hT.1 0 b (by decide))
        · intro k h1 h2 b
          rw [gω k b (by omega), ← hυ]
          simp only [sI_pI]
          rw [if_neg (by omega), if_neg (by omega), if_neg (by omega)]
          exact (hRm.1 k b (by omega)).trans (hT.1 k b (by omega))
        · intro k b; rw [sR_L, hMr.2.1, ← hυ]; exact (hRm.2.1 k b).trans (hT.2.1 k b)
        · intro k h1 h2 b
          rw [sR_o _ _ _ _ _ (by omega), hMr.2.2 k (by omega), ← hυ]
          exact (hRm.2.2 k (by omega) (by omega) (by omega) b).trans (hT.2.2 k (by omega) b)
        · rw [gω 72 0 (by decide), ← hυ]; exact (hRm.1 72 0 (by decide)).trans (hT.1 72 0 (by decide))
        · rw [sR_I, hMr.1 75 15 (by decide), ← hυ]; exact (hRm.1 75 15 (by decide)).trans (hT.1 75 15 (by decide))
        · intro k hk b
          rw [sR_o _ _ _ _ _ (by omega), hMr.2.2 k (by omega), ← hυ]
          exact (hRm.2.2 k (by omega) (by omega) (by omega) b).trans (hT.2.2 k (by omega) b)
    · simp only [if_pos h1, if_neg h2, if_neg (fun q : QR d a k ∧ (0 ≤ s ∧ s ≤ 1) => h2 q.2)]
      exact ⟨_, _, _, rfl, rfl, h.bad⟩
  · simp only [if_neg h1, if_neg (fun q : QR d a k ∧ (0 ≤ s ∧ s ≤ 1) => h1 q.1)]
    exact ⟨_, _, _, rfl, rfl, h.bad⟩
