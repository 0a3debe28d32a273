/-! drawn -/
theorem dr_next {X : Nat} (hX : X < 2 ^ 31) : ((lN X * 1103515245) + 12345) - ((lN X * 1103515245) + 12345) / 2147483648 * 2147483648 = lN ((X * 1103515245 + 12345) % 2147483648) := by
  have e1 : (1103515245 : Int64) = lN 1103515245 := rfl
  have e2 : (12345 : Int64) = lN 12345 := rfl
  have e3 : (2147483648 : Int64) = lN 2147483648 := rfl
  rw [e1, e2, e3, lN_mul, lN_add, pk_lRem (by omega) (by decide) (by decide)]
theorem dr_bit {Y : Nat} (hY : Y < 2 ^ 31) : ((lN Y / 65536) - (lN Y / 65536) / 2 * 2).toInt32 = nI (Y / 65536 % 2) := by
  have e1 : (65536 : Int64) = lN 65536 := rfl
  have e2 : (2 : Int64) = lN 2 := rfl
  rw [e1, e2, pk_lDiv (by omega) (by decide) (by decide), pk_lRem (by omega) (by decide) (by decide), lN_i]
theorem dr_in {σ : St} {L : Nat} (hL8 : L ≤ 8) (hL : sI σ 1 0 = nI L) : ∀ (n l X S : Nat), L - l < n → l ≤ L → X < 2 ^ 31 → S < 2 ^ l → ∃ (X' S' : Nat), X' < 2 ^ 31 ∧ S' < 2 ^ L ∧ (∀ (rc : Int32 → Int64 → Int64 → Int32 → St → Option (Int32 × St)) (x2 : Int32) (x7 : Int64) (x9 : Int32), f_X5_drawn_83 rc n x2 (lN X) x7 x9 (nI S) (nI l) σ = bd (f_X4_go (pI σ 61 5 (nI S'))) (fun r σ' => rc x2 (lN X') (x7 + r.toInt64) (x9 + 1) σ')) ∧ ∀ (τ : St) (m : Nat) (f : Nat → Int32), sA τ 76 0 = nI L → L - l < m → (∀ i, i < l → f i = nI (S / 2 ^ i % 2)) → ∃ f' : Nat → Int32, (∀ i, i < L → f' i = nI (S' / 2 ^ i % 2)) ∧ ∀ (rc : Int32 → Int32 → Int32 → Int64 → Int32 → Int32 → St → Option (Int32 × St)) (x2 x3 x4 x7 x8 : Int32), f_X6_drawn_73 rc m x2 x3 x4 (lN X) x7 x8 (nI l) (sR τ 80 f) = bd (f_X6_goRun 0 x3 x4 0 (sR τ 80 f')) (fun r τ' => rc x2 x3 x4 (lN X') (x7 + r) (x8 + 1) τ') := by
  intro n
  induction n with
  | zero => intro l X S h; omega
  | succ n ih =>
    intro l X S hn hl hX hS
    have hA2 : ∀ (τ : St) (f : Nat → Int32), sA τ 76 0 = nI L → sA (sR τ 80 f) 76 0 = nI L := fun τ f hA => by rw [sR_o _ _ _ _ _ (by decide)]; exact hA
    by_cases he : l = L
    · subst he
      refine ⟨X, S, hX, hS, fun rc x2 x7 x9 => ?_, fun τ m f hA hm hf => ⟨f, hf, fun rc x2 x3 x4 x7 x8 => ?_⟩⟩
      · rw [f_X5_drawn_83, hL, if_pos (nI_le (Nat.le_refl _) (by omega))]
      · obtain ⟨m, rfl⟩ : ∃ m', m = m' + 1 := ⟨m - 1, by omega⟩
        rw [f_X6_drawn_73, f_X6_locks, bd_s, hA2 τ f hA, if_pos (nI_le (Nat.le_refl _) (by omega))]
    · have hl8 : l < 8 := by omega
      have hp : 2 ^ l ≤ 128 := Nat.le_trans (Nat.pow_le_pow_right (by decide) (show l ≤ 7 by omega)) (by decide)
      have hs : (X * 1103515245 + 12345) % 2147483648 / 65536 % 2 < 2 := Nat.mod_lt _ (by decide)
      have hY : (X * 1103515245 + 12345) % 2147483648 < 2 ^ 31 := Nat.mod_lt _ (by decide)
      generalize hYe : (X * 1103515245 + 12345) % 2147483648 = Y at hs hY
      have hS1 : S + Y / 65536 % 2 * 2 ^ l < 2 ^ (l + 1) := by
        rw [Nat.pow_succ]
        have : Y / 65536 % 2 * 2 ^ l ≤ 1 * 2 ^ l := Nat.mul_le_mul_right _ (by omega)
        omega
      obtain ⟨X', S', q1, q2, q4, q5⟩ := ih (l + 1) Y (S + Y / 65536 % 2 * 2 ^ l) (by omega) (by omega) hY hS1
      refine ⟨X', S', q1, q2, fun rc x2 x7 x9 => ?_, fun τ m f hA hm hf => ?_⟩
      · rw [f_X5_drawn_83, hL, if_neg (nI_ge (show l < L by omega) (by omega)), dr_next hX, hYe, dr_bit hY, or_bit l hl8 S (by omega) hS _ hs, nI_1]
        exact q4 rc x2 x7 x9
      · obtain ⟨m, rfl⟩ : ∃ m', m = m' + 1 := ⟨m - 1, by omega⟩
        have hf1 : ∀ i, i < l + 1 → upd f l (nI (Y / 65536 % 2)) i = nI ((S + Y / 65536 % 2 * 2 ^ l) / 2 ^ i % 2) := by
          intro i hi
          unfold upd
          rw [or_bits l hl8 S (by omega) hS _ hs i (by omega)]
          by_cases h1 : i = l
          · rw [if_pos h1, if_pos h1]
          · rw [if_neg h1, if_neg h1]
            exact hf i (by omega)
        obtain ⟨f', q6, q7⟩ := q5 τ m (upd f l (nI (Y / 65536 % 2))) hA (by omega) hf1
        refine ⟨f', q6, fun rc x2 x3 x4 x7 x8 => ?_⟩
        rw [f_X6_drawn_73, f_X6_locks, bd_s, hA2 τ f hA, if_neg (nI_ge (show l < L by omega) (by omega)), nI_c (by omega), gd_ok (by
          rintro (q | q)
          · exact nI_pos (by omega) q
          · omega), dr_next hX, hYe, dr_bit hY, sR_pA, nI_1]
        exact q7 rc x2 x3 x4 x7 x8
theorem dr_out {L N : Nat} {ah st : Int32} {k : Nat} {KD RD : Nat → Int32} (hah : ah = 0 ∨ ah = 1 ∨ ah = 2) (hk1 : 1 ≤ k) (hk9 : k ≤ 9) (hL8 : L ≤ 8) (hRD : ∀ i, i < L → ∃ m, m ≤ 20 ∧ RD i = nI m) (hN : N ≤ 30) {B0 : Nat} : ∀ (n i X T B : Nat) (σ : St), N - i < n → i ≤ N → X < 2 ^ 31 → T ≤ 2000 * i → Tq σ L B 0 ah st 0 k KD RD → ∃ (T' : Nat) (σ' : St), T' ≤ 2000 * N ∧ f_X5_drawn_71 n (nI N) (lN X) (lN T) (nI i) σ = bv (f_X5_setFraction (lN T') (lN N) σ') (fun ρ => some (1, ρ)) ∧ Tr σ σ' ∧ ∀ (m : Nat) (τ : St), N - i < m → RI τ L B0 st KD RD → ∃ τ', f_X6_drawn_60 m (nI N) ah (nI k) (lN X) (nI T) (nI i) τ = bv (f_X6_tell (nI T') (nI N) τ') (fun ρ => some (1, ρ)) ∧ Mr τ τ' := by
  intro n
  induction n with
  | zero => intro i X T B σ h; omega
  | succ n ih =>
    intro i X T B σ hn hi hX hT hq
    rw [f_X5_drawn_71]
    by_cases he : i = N
    · subst he
      rw [if_pos (nI_le (Nat.le_refl _) (by omega)), nI_l (by omega)]
      refine ⟨T, σ, hT, rfl, Tr.rf, fun m τ hm hR => ?_⟩
      obtain ⟨m, rfl⟩ : ∃ m', m = m' + 1 := ⟨m - 1, by omega⟩
      rw [f_X6_drawn_60, if_pos (nI_le (Nat.le_refl _) (by omega))]
      exact ⟨τ, rfl, Mr.rf⟩
    · rw [if_neg (nI_ge (show i < N by omega) (by omega))]
      obtain ⟨X', S', q1, q2, q4, q5⟩ := dr_in (σ := σ) hL8 hq.1 FU 0 X 0 (FU_lt (by omega)) (Nat.zero_le _) hX (by decide)
      have hS8 : S' < 256 := Nat.lt_of_lt_of_le q2 (two_le hL8)
      obtain ⟨σ1, e1, hs1, -⟩ := e_go (hq.stands hS8)
      obtain ⟨u, hu, eu⟩ := rnT_b (B := S') (dn := 0) (ah := ah) (st := st) (KD := KD) hL8 hk1 hRD ⟨0, by decide, rfl⟩
      rw [show nI 0 = (0 : Int32) from rfl] at eu
      have z5 := q4 (f_X5_drawn_71 n) (nI N) (lN T) (nI i)
      rw [e1, bd_s, eu, nI_l (by omega), lN_add, nI_1] at z5
      obtain ⟨T', σ', g1, g2, g3, g4⟩ := ih (i + 1) X' (T + u) S' σ1 (by omega) (by omega) q1 (by omega) ((hq.stands hS8).moved hs1)
      refine ⟨T', σ', g1, z5.trans g2, (Tr.pI.tr hs1.Tr).tr g3, fun m τ hm hR => ?_⟩
      obtain ⟨m, rfl⟩ : ∃ m', m = m' + 1 := ⟨m - 1, by omega⟩
      rw [f_X6_drawn_60, if_neg (nI_ge (show i < N by omega) (by omega)), m_layHand, bv_s]
      obtain ⟨b1, b2, b3, b4, b5⟩ := hR.mq
      rw [sR_o _ _ _ _ _ (by decide)] at b1
      obtain ⟨f', q3, q6⟩ := q5 (pI τ 75 12 (sA τ 76 1)) FU (fun m => if m < 8 then sA τ 76 (7 + 3 * m) else sA τ 80 m) b1 (FU_lt (by omega)) (fun i hi => absurd hi (Nat.not_lt_zero i))
      have hMq : Mq (sR (pI τ 75 12 (sA τ 76 1)) 80 f') L S' st KD RD := by
        refine ⟨by rw [sR_o _ _ _ _ _ (by decide)]; exact b1, hL8, b3, fun i hi => by rw [sR_at]; exact q3 i hi, fun i hi => ?_⟩
        have := b5 i hi
        rw [sR_o _ _ _ _ _ (by decide), sR_o _ _ _ _ _ (by decide)] at this ⊢
        exact this
      obtain ⟨τ1, e2, hm2, -⟩ := m_go (dn := 0) (ah := ah) (mo := 0) (Or.inl rfl) hah hk1 hk9 hMq
      have hM1 : Mr τ τ1 := Mr.tr (τ := sR (pI τ 75 12 (sA τ 76 1)) 80 f') ⟨fun k b h => by rw [sR_I, sI_pI, if_neg (by omega)], fun _ _ => rfl, fun k h b => by rw [sR_o _ _ _ _ _ (by omega)]; rfl⟩ hm2.Mr
      have z6 := q6 (f_X6_drawn_60 m) (nI N) ah (nI k) (nI T) (nI i)
      rw [e2, bd_s, eu, nI_add, nI_1] at z6
      obtain ⟨τ', g5, g6⟩ := g4 m τ1 (by omega) (hR.moved hM1.Rl)
      exact ⟨τ', z6.trans g5, hM1.tr g6⟩
theorem dr_gcd {σ : St} {A N : Nat} : ∀ (K b a i n m : Nat), b ≤ K → b + i < 100 → b < n → b < m → a < 2 ^ 31 → ∃ g, g < 2 ^ 31 ∧ (0 < a ∨ 0 < b → 0 < g) ∧ f_X5_commonDivisor_9 n (lN a) (lN b) (nI i) σ = some (lN g, σ) ∧ ∀ τ : St, f_X6_tell_5 m (nI A) (nI N) (nI a) (nI b) τ = gd (nI g = 0) (gd (nI g = 0) (some (pL (pL τ 75 4 ((nI A / nI g).toInt64)) 75 5 ((nI N / nI g).toInt64)))) := by
  intro K
  induction K with
  | zero =>
    intro b a i n m hK hi hn hm ha
    have hb : b = 0 := by omega
    subst hb
    obtain ⟨n, rfl⟩ : ∃ n', n = n' + 1 := ⟨n - 1, by omega⟩
    obtain ⟨m, rfl⟩ : ∃ m', m = m' + 1 := ⟨m - 1, by omega⟩
    refine ⟨a, ha, fun h => by omega, ?_, fun τ => ?_⟩
    · rw [f_X5_commonDivisor_9, if_neg (show ¬ (100 : Int32) ≤ nI i from nI_ge (b := 100) (by omega) (by decide)), if_pos (show lg_cmp (lN 0) 0 = 0 from (lg_cmp_eq _ _).mpr rfl)]
    · rw [f_X6_tell_5, if_pos nI_0]
  | succ K ih =>
    intro b a i n m hK hi hn hm ha
    by_cases hb : b = 0
    · exact ih b a i n m (by omega) hi hn hm ha
    · obtain ⟨n, rfl⟩ : ∃ n', n = n' + 1 := ⟨n - 1, by omega⟩
      obtain ⟨m, rfl⟩ : ∃ m', m = m' + 1 := ⟨m - 1, by omega⟩
      have hr : a % b < b := Nat.mod_lt _ (by omega)
      have n1 : ¬ lN b = 0 := fun e => hb ((lN_eq (b := 0) (by omega) (by decide)).mp e)
      have n2 : ¬ nI b = 0 := fun e => hb ((nI_eq (b := 0) (by omega) (by decide)).mp e)
      obtain ⟨g, g1, g2, g3, g4⟩ := ih (a % b) b (i + 1) n m (by omega) (by omega) (by omega) (by omega) (by omega)
      refine ⟨g, g1, fun _ => g2 (Or.inl (by omega)), ?_, fun τ => ?_⟩
      · rw [f_X5_commonDivisor_9, if_neg (show ¬ (100 : Int32) ≤ nI i from nI_ge (b := 100) (by omega) (by decide)), if_neg (fun e => n1 ((lg_cmp_eq _ _).mp e)), gd_ok n1, pk_lRem (by omega) (by omega) (by omega), nI_1]
        exact g3
      · rw [f_X6_tell_5, if_neg n2, gd_ok n2, pk_rem ha (by omega) (by omega)]
        exact g4 τ
theorem JJ.frac {υ : St} {s : Nat → Nat → Int64} (h : JJ (υ.1, s, υ.2.2)) (h8 : sL υ 75 4 = sL υ 0 8) (h9 : sL υ 75 5 = sL υ 0 9) : JJ υ := by
  obtain ⟨q1, q2, q3, q4, q5, q6, q7, -, -, q10, q11, q12, q13⟩ := h
  exact ⟨q1, q2, q3, q4, q5, q6, q7, h8, h9, q10, q11, q12, q13⟩
theorem eq_drawn {σ : St} (h : JJ σ) (x1 x2 x3 x4 : Int32) : EQI (f_X5_drawn x1 x2 x3 x4) (f_X6_drawn x1 x2 x3 x4) σ := by
  obtain ⟨L, B, st, KD, RD, hri⟩ := h.ri
  have hL8 : L ≤ 8 := hri.2.1
  unfold EQI f_X5_drawn f_X6_drawn f_X5_refusedBad f_X6_bad f_X5_refusedNo f_X6_no
  simp only [e_isRun, e_within, m_isRun, m_inI x1 0 999999 0 999999 rfl rfl, m_inI x2 0 30 0 30 rfl rfl, bd_s, if10]
  by_cases h1 : 0 ≤ x1 ∧ x1 ≤ 999999
  · by_cases h2 : 0 ≤ x2 ∧ x2 ≤ 30
    · by_cases h3 : QR 0 x3 x4
      · have h3' : QR 0 x3 x4 ∧ ((0 : Int32) ≤ 0 ∧ (0 : Int32) ≤ 1) := ⟨h3, by decide⟩
        simp only [if_pos h1, if_pos h2, if_pos h3, if_pos h3']
        by_cases h0 : x2 = 0
        · simp only [if_pos h0]
          exact ⟨_, _, _, rfl, rfl, h.no⟩
        · simp only [if_neg h0]
          obtain ⟨X, hX, rfl⟩ := i_of (n := 999999) rfl h1
          obtain ⟨N, hN, rfl⟩ := i_of (n := 30) rfl h2
          obtain ⟨hd, hah, k, hk1, hk9, rfl⟩ := QR.get h3
          have hN0 : 0 < N := Nat.pos_of_ne_zero (fun e => h0 (by rw [e]; rfl))
          obtain ⟨τ, e1, hT, hq, t6, t3⟩ := e_tell hri (ah := x3) (sh := 0) hd hk1 hk9
          rw [show (2 : Int32) * 0 = 0 from rfl] at hq
          have hRD := hri.2.2.2.2.2.2.1
          obtain ⟨T, σ1, hT1, g1, g2, g3⟩ := dr_out (B0 := B) hah hk1 hk9 hL8 hRD hN FU 0 X 0 B τ (FU_lt (by omega)) (Nat.zero_le _) (by omega) (Nat.le_refl _) hq
          obtain ⟨g, c1, c2, c3, c4⟩ := dr_gcd (σ := σ1) (A := T) (N := N) N N T 0 FU FU (Nat.le_refl _) (by omega) (FU_lt (by omega)) (FU_lt (by omega)) (by omega)
          have hg0 : 0 < g := c2 (Or.inr hN0)
          have n1 : ¬ lN g = 0 := fun e => by
            have := (lN_eq (b := 0) (by omega) (by decide)).mp e
            omega
          have e2 : f_X5_setFraction (lN T) (lN N) σ1 = some (pL (pL σ1 0 8 (lN (T / g))) 0 9 (lN (N / g))) := by
            unfold f_X5_setFraction f_X5_commonDivisor
            rw [show (0 : Int32) = nI 0 from rfl, c3, bd_s, if_neg (fun e => by
              have e := (lg_cmp_le _ _).mp e
              have := (lN_le (b := 0) (by omega) (by decide)).mp e
              omega), gd_ok n1, gd_ok n1, pk_lDiv (by omega) hg0 (by omega), pk_lDiv (by omega) hg0 (by omega)]
          have hTr : Tr σ σ1 := hT.tr g2
          have hri1 : RI (pL (pL σ1 0 8 (lN (T / g))) 0 9 (lN (N / g))) L B st KD RD := (show RI σ1 L B st KD RD from hri.moved hTr.Rl)
          obtain ⟨υ, z3, z4⟩ := g3 FU (pL (pL σ1 0 8 (lN (T / g))) 0 9 (lN (N / g))) (FU_lt (by omega)) hri1
          have n2 : ¬ nI g = 0 := fun e => by
            have := (nI_eq (b := 0) (by omega) (by decide)).mp e
            omega
          have e3 : f_X6_tell (nI T) (nI N) υ = some (pL (pL υ 75 4 (lN (T / g))) 75 5 (lN (N / g))) := by
            unfold f_X6_tell
            rw [c4 υ, gd_ok n2, gd_ok n2, pk_div (by omega) hg0 c1, pk_div (by omega) hg0 c1, nI_l (Nat.lt_of_le_of_lt (Nat.div_le_self _ _) (by omega)), nI_l (Nat.lt_of_le_of_lt (Nat.div_le_self _ _) (by omega))]
          refine ⟨1, pL (pL σ1 0 8 (lN (T / g))) 0 9 (lN (N / g)), pL (pL υ 75 4 (lN (T / g))) 75 5 (lN (N / g)), ?_, ?_, ?_⟩
          · rw [e1, bv_s, nI_l (by omega)]
            refine g1.trans ?_
            rw [e2, bv_s]
          · rw [nI_l (by omega)]
            refine z3.trans ?_
            rw [e3, bv_s]
          · have hL : ∀ k b, sL υ k b = sL (pL (pL σ1 0 8 (lN (T / g))) 0 9 (lN (N / g))) k b := z4.2.1
            refine JJ.frac (s := σ1.2.1) ((h.moved hTr.Rl).moved ⟨fun k hk => ⟨fun b => z4.1 k b (by omega), fun b => rfl, fun b => z4.2.2 k (by omega) b⟩, z4.1 _ _ (by decide), fun b => z4.2.2 _ (by decide) b, z4.1 _ _ (by decide), fun b => rfl, fun k h1 h2 b => z4.2.2 k (by omega) b, fun b => z4.2.2 _ (by decide) b⟩) ?_ ?_
            · rw [sL_pL, if_neg (by decide), sL_pL, if_pos ⟨rfl, rfl⟩, sL_pL, if_neg (by decide), sL_pL, if_neg (by decide), hL, sL_pL, if_neg (by decide), sL_pL, if_pos ⟨rfl, rfl⟩]
            · rw [sL_pL, if_pos ⟨rfl, rfl⟩, sL_pL, if_neg (by decide), sL_pL, if_neg (by decide), hL, sL_pL, if_pos ⟨rfl, rfl⟩]
      · have h3' : ¬ (QR 0 x3 x4 ∧ ((0 : Int32) ≤ 0 ∧ (0 : Int32) ≤ 1)) := fun q => h3 q.1
        simp only [if_pos h1, if_pos h2, if_neg h3, if_neg h3']
        exact ⟨_, _, _, rfl, rfl, h.bad⟩
    · simp only [if_pos h1, if_neg h2]
      exact ⟨_, _, _, rfl, rfl, h.bad⟩
  · simp only [if_neg h1]
    exact ⟨_, _, _, rfl, rfl, h.bad⟩
