/-! the whole reading -/
theorem RS.st {σ' ρ ρ' : St} {r r' : Int32} (h : RS σ' ρ r r' ρ') : r = -1 ∨ ¬ r = -1 := by
  rcases h with ⟨h1, _⟩ | ⟨h1, _⟩
  · exact Or.inl h1
  · exact Or.inr h1
theorem frx_rst {v : Int32} {σ : St} {a : Nat → Int32} (h1 : a 1 = v) (ha : ∀ n, n < 42 → n ≠ 1 → a n = 0) : FRx 0 0 0 (g6 (rst v σ)) (r6 (rst v σ)) a := FRx.zero rfl rfl rfl rfl rfl rfl h1 ha
/-- the reference's reading, from the token at i on -/
theorem rd_all {A : Nat → Int32} {T : Nat} (σ : St) (hC : Cl σ A T) : ∃ r σ', f_X3_faultInto σ = some (r, σ') ∧ Kz σ σ' ∧ ∀ ρ : St, Ml ρ A T → ∃ r' ρ', f_X6_read ρ = some (r', ρ') ∧ RS σ' ρ r r' ρ' := by
  have hT := hC.1
  have hb0 := bk_b (A := A) (T := T) (i := 0) (Nat.zero_le _)
  have e0 : f_X3_faultInto σ = f_X3_faultInto_11 (999 + 1) 0 (nI (bk A T 0)) (nI 0) σ := by
    unfold f_X3_faultInto f_X3_behindBlanks
    rw [show (0 : Int32) = nI 0 from rfl, e_blanks hC FU 0 (FU_lt (by omega)) (Nat.zero_le _), bd_s]
    rfl
  rw [e0]
  generalize hi : bk A T 0 = i at *
  have s0 := e_s0 (n := 999) (t := 0) hC hb0.2 (Nat.zero_le _)
  have m0 : ∀ ρ : St, Ml ρ A T → ∃ ρ0, f_X6_lookAt 0 ρ = some ρ0 ∧ Tk ρ0 A T i ∧ Fz ρ ρ0 := fun ρ hM => by
    have := m_lookAt (i := 0) hM (Nat.zero_le _)
    rw [hi] at this
    exact this
  have mc : ∀ ρ : St, Ml ρ A T → Tk ρ A T i → f_X6_isCalled 6 102 108 105 103 104 116 ρ = some (if isW A T i 6 cw0 then 1 else 0, ρ) := fun ρ hM hk => m_called (c := cw0) (len := 6) hM hk (by decide)
  by_cases o0 : isW A T i 6 cw0
  · have q0 := s0.2 o0
    have hl : i < T := knd_lt (by rw [o0.1]; decide)
    have hb1 := nx_b (A := A) hl
    have s1 := e_s1 (n := 998) (i := nx A T i) (t := 0 + 1) hC hb1.2 (by omega)
    have m1 : ∀ ρ : St, Ml ρ A T → ∃ ρ0 ρ1, f_X6_lookAt 0 ρ = some ρ0 ∧ f_X6_isCalled 6 102 108 105 103 104 116 ρ0 = some (1, ρ0) ∧ f_X6_goOn ρ0 = some ρ1 ∧ Tk ρ1 A T (nx A T i) ∧ Fz ρ ρ1 := fun ρ hM => by
      obtain ⟨ρ0, a1, a2, a3⟩ := m0 ρ hM
      obtain ⟨ρ1, b1, b2, b3⟩ := m_goOn (hM.fz a3) hl a2
      exact ⟨ρ0, ρ1, a1, by rw [mc ρ0 (hM.fz a3) a2, if_pos o0], b1, b2, a3.tr b3⟩
    by_cases o1 : okN A T (nx A T i) 0 9
    · have q1 := s1.2 o1
      have hb2 := nx_b (A := A) o1.lt
      have hz1 := rst_k (nv A T (nx A T i)) σ
      have s2 := e_s2 (n := 997) (i := nx A T (nx A T i)) (t := 0 + 1 + 1) (hC.kz hz1) hb2.2 (by omega)
      /- the reference after its first row -/
      have m2 : ∀ ρ : St, Ml ρ A T → ∃ ρ0 ρ1 ρ2 ρ3, f_X6_lookAt 0 ρ = some ρ0 ∧ f_X6_isCalled 6 102 108 105 103 104 116 ρ0 = some (1, ρ0) ∧ f_X6_goOn ρ0 = some ρ1 ∧ f_X6_eats 0 0 9 ρ1 = some (1, ρ2) ∧ f_X6_begin_87 (sA ρ2 88 0) ρ2 = some ρ3 ∧ Tk ρ3 A T (nx A T (nx A T i)) ∧ Mz ρ ρ3 ∧ sA ρ3 87 1 = nv A T (nx A T i) ∧ ∀ n, n < 42 → n ≠ 1 → sA ρ3 87 n = 0 := fun ρ hM => by
        obtain ⟨ρ0, ρ1, a1, a2, a3, a4, a5⟩ := m1 ρ hM
        obtain ⟨ρ2, b1, b2, b3⟩ := (m_eats (q := 0) (lo := 0) (hi := 9) (hM.fz a5) a4 (by decide)).2 o1
        have y0 : sA ρ2 88 0 = nv A T (nx A T i) := by rw [b3.A, sA_pA, if_pos ⟨rfl, rfl⟩]
        refine ⟨ρ0, ρ1, ρ2, _, a1, a2, a3, b1, m_begin87 ρ2 (sA ρ2 88 0), b2.same fun b => rfl, (a5.Mz.tr (fz_a b3)).tr Mz.r, ?_, fun n h1 h2 => ?_⟩
        · rw [sR_at, if_pos rfl, y0]
        · rw [sR_at, if_neg h2, if_pos h1]
      by_cases o2 : knd A T (nx A T (nx A T i)) = 3
      · have q2 := s2.2 o2
        have hl2 : nx A T (nx A T i) < T := knd_lt (by rw [o2]; decide)
        have hb3 := nx_b (A := A) hl2
        obtain ⟨r, σ', e1, e2, e3⟩ := rd_locks T (nx A T (nx A T (nx A T i))) (0 + 1 + 1 + 1) 0 997 (rst (nv A T (nx A T i)) σ) (by omega) hb3.2 (by omega) (by omega) (hC.kz hz1) rfl (by decide)
        refine ⟨r, σ', ((q0.trans q1).trans q2).trans e1, hz1.tr e2, fun ρ hM => ?_⟩
        obtain ⟨ρ0, ρ1, ρ2, ρ3, a1, a2, a3, a4, a5, a6, a7, a8, a9⟩ := m2 ρ hM
        obtain ⟨ρ4, b1, b2, b3⟩ := m_goOn (hM.mz a7) hl2 a6
        have hF : FRx 0 0 0 (g6 (rst (nv A T (nx A T i)) σ)) (r6 (rst (nv A T (nx A T i)) σ)) (sA ρ4 87) := frx_rst (by rw [b3.A]; exact a8) (fun n h1 h2 => by rw [b3.A]; exact a9 n h1 h2)
        obtain ⟨r', ρ', x1, x2⟩ := e3 FU ρ4 (FU_lt (by omega)) ((hM.mz a7).fz b3) b2 hF
        refine ⟨r', ρ', ?_, x2.tr (a7.tr b3.Mz)⟩
        unfold f_X6_read f_X6_readsFirst f_X6_readsFirst_54
        rw [a1, bv_s, a2, bd_s, if_neg (by decide), a3, bv_s, a4, bd_s, if_neg (by decide), a5, bv_s, if_neg (by decide), if_pos (show sI ρ3 75 18 = 3 from (a6.k (n := 3) (by decide)).mpr o2), bd_s, if_neg (by decide), b1, bv_s]
        exact x1
      · obtain ⟨σ2, e1, e2⟩ := s2.1 o2
        refine ⟨_, σ2, (q0.trans q1).trans e1, hz1.tr e2, fun ρ hM => ?_⟩
        obtain ⟨ρ0, ρ1, ρ2, ρ3, a1, a2, a3, a4, a5, a6, a7, a8, a9⟩ := m2 ρ hM
        refine ⟨-10 - nI (nx A T (nx A T i)), ρ3, ?_, Or.inr ⟨f_bad (by omega), rfl, a7⟩⟩
        unfold f_X6_read f_X6_readsFirst f_X6_readsFirst_54
        rw [a1, bv_s, a2, bd_s, if_neg (by decide), a3, bv_s, a4, bd_s, if_neg (by decide), a5, bv_s, if_neg (by decide), if_neg (show ¬ sI ρ3 75 18 = 3 from fun q => o2 ((a6.k (n := 3) (by decide)).mp q)), bd_s, if_pos rfl, a6.1]
    · obtain ⟨σ2, e1, e2⟩ := s1.1 o1
      refine ⟨_, σ2, q0.trans e1, e2, fun ρ hM => ?_⟩
      obtain ⟨ρ0, ρ1, a1, a2, a3, a4, a5⟩ := m1 ρ hM
      have b1 := (m_eats (q := 0) (lo := 0) (hi := 9) (hM.fz a5) a4 (by decide)).1 o1
      refine ⟨-10 - nI (nx A T i), sR ρ1 87 (fun m => if m = 1 then 0 else if m < 42 then 0 else sA ρ1 87 m), ?_, Or.inr ⟨f_bad (by omega), rfl, a5.Mz.tr Mz.r⟩⟩
      · unfold f_X6_read f_X6_readsFirst f_X6_readsFirst_54
        rw [a1, bv_s, a2, bd_s, if_neg (by decide), a3, bv_s, show f_X6_eats 0 0 9 ρ1 = some (0, ρ1) from b1, bd_s, if_pos rfl, m_begin87, bv_s, if_pos rfl, bd_s, if_pos rfl, sR_I, a4.1]
  · obtain ⟨σ2, e1, e2⟩ := s0.1 o0
    refine ⟨_, σ2, e1, e2, fun ρ hM => ?_⟩
    obtain ⟨ρ0, a1, a2, a3⟩ := m0 ρ hM
    refine ⟨-10 - nI i, ρ0, ?_, Or.inr ⟨f_bad (by omega), rfl, a3.Mz⟩⟩
    unfold f_X6_read f_X6_readsFirst
    rw [a1, bv_s, mc ρ0 (hM.fz a3) a2, if_neg o0, bd_s, if_pos rfl, bd_s, if_pos rfl, a2.1]
theorem Kz.Rl {σ τ : St} (h : Kz σ τ) : Rl σ τ := ⟨fun k hk => ⟨fun b => h.1 k b (by omega), fun b => h.2.1 k b, fun b => h.2.2 k (by omega) b⟩, h.1 _ _ (by decide), fun b => h.2.2 _ (by decide) b, h.1 _ _ (by decide), fun b => h.2.1 _ b, fun k h1 h2 b => h.2.2 k (by omega) b, fun b => h.2.2 _ (by decide) b⟩
theorem Mz.Rl {σ τ : St} (h : Mz σ τ) : Rl σ τ := ⟨fun k hk => ⟨fun b => h.1 k b (by omega), fun b => h.2.1 k b, fun b => h.2.2 k (by omega) (by omega) b⟩, h.1 _ _ (by decide), fun b => h.2.2 _ (by decide) (by decide) b, h.1 _ _ (by decide), fun b => h.2.1 _ b, fun k h1 h2 b => h.2.2 k (by omega) (by omega) b, fun b => h.2.2 _ (by decide) (by decide) b⟩
theorem TX.cl {σ : St} (h : TX σ) : ∃ A T, Cl σ A T ∧ Ml σ A T := by
  obtain ⟨T, hT, t1, t2, t3⟩ := h
  exact ⟨sA σ 74, T, ⟨hT, t1, fun i hi => rfl⟩, hT, t2, fun i hi => (t3 i hi).1⟩
theorem Ml.of {σ τ : St} {A : Nat → Int32} {T : Nat} (h : Ml σ A T) (h1 : sI τ 75 15 = sI σ 75 15) (h2 : ∀ b, sA τ 86 b = sA σ 86 b) : Ml τ A T := ⟨h.1, h1.trans h.2.1, fun i hi => (h2 i).trans (h.2.2 i hi)⟩
theorem eq_read {σ : St} (h : JJ σ) : EQI f_X5_read f_X6_read σ := by
  obtain ⟨A, T, hC, hM⟩ := TX.cl h.2.2.2.2.2.2.2.2.2.2.2.2
  obtain ⟨r, σ', e1, hz, hm⟩ := rd_all σ hC
  unfold EQI f_X5_read
  rw [e1, bd_s]
  have hJ' : JJ σ' := h.moved hz.Rl
  by_cases hr : r = -1
  · rw [if_pos hr, e_pc46, bv_s]
    have hM' : Ml (cpF σ' 1 46) A T := hM.of ((cpF_Io (by decide)).trans (hz.1 75 15 (by omega))) (fun b => (cpF_o (by omega)).trans (hz.2.2 86 (by omega) b))
    obtain ⟨r', ρ', x1, x2⟩ := hm (cpF σ' 1 46) hM'
    rcases x2 with ⟨-, y1, ρ1, c', y2, y3, y4⟩ | ⟨y0, -⟩
    · refine ⟨r', cpF σ' 1 46, ρ', ?_, x1, ?_⟩
      · rw [y1, cpF_I (by decide)]
      · subst y3
        have hA : ∀ k b, 15 < k → k ≠ 76 → k ≠ 87 → k ≠ 88 → sA (sR ρ1 76 (fun m => if m < 42 then sA ρ1 87 m else sA ρ1 76 m)) k b = sA σ' k b := fun k b h0 h1 h2 h3 => by
          rw [sR_o _ _ _ _ _ h1, y2.2.2 k h2 h3]
          exact cpF_o (by omega)
        have hI : ∀ k b, k ≠ 1 → ¬ (k = 75 ∧ 16 ≤ b ∧ b ≤ 19) → sI (sR ρ1 76 (fun m => if m < 42 then sA ρ1 87 m else sA ρ1 76 m)) k b = sI σ' k b := fun k b h1 h2 => by
          rw [sR_I, y2.1 k b h2]
          exact cpF_Io h1
        have hI1 : ∀ b, b < 7 → sI (sR ρ1 76 (fun m => if m < 42 then sA ρ1 87 m else sA ρ1 76 m)) 1 b = sI σ' 46 b := fun b hb => by
          rw [sR_I, y2.1 1 b (by omega)]
          exact cpF_I hb
        have hA1 : ∀ q i, q < 7 → i < rl q → sA (sR ρ1 76 (fun m => if m < 42 then sA ρ1 87 m else sA ρ1 76 m)) (1 + 2 + 2 * q) i = sA σ' (46 + 2 + 2 * q) i := fun q i hq hi => by
          rw [sR_o _ _ _ _ _ (by omega), y2.2.2 _ (by omega) (by omega)]
          exact cpF_A (by decide) (by decide) hq hi
        obtain ⟨hL8, hrd, hun, u0, b0, b1, b2, b3, u5, b4, u6, b5, hk, ⟨B, hB, hB2, hB3⟩, hr', hu⟩ := y4
        have h76 : ∀ m, m < 42 → sA (sR ρ1 76 (fun m => if m < 42 then sA ρ1 87 m else sA ρ1 76 m)) 76 m = sA ρ1 87 m := fun m hm => by rw [sR_at, if_pos hm]
        refine hJ'.now (FS.of (L := c') (rd := 0) (un := 0) ⟨hL8, hrd, hun, (hI1 0 (by decide)).trans u0, (h76 0 (by decide)).trans b0, ?_, ?_, ?_, (hI1 5 (by decide)).trans u5, (h76 4 (by decide)).trans b4, (hI1 6 (by decide)).trans u6, (h76 5 (by decide)).trans b5, fun i hi => ?_, ⟨B, (hI1 2 (by decide)).trans hB, hB2, fun i hi => ?_⟩, fun j hj => absurd hj (Nat.not_lt_zero j), fun j hj => absurd hj (Nat.not_lt_zero j)⟩) (fun b => hI 0 b (by decide) (by omega)) (fun k h1 h2 b => hI k b (by omega) (by omega)) (fun k b => ?_) (fun k h1 h2 b => hA k b (by omega) (by omega) (by omega) (by omega)) (hI 72 0 (by decide) (by decide)) (hI 75 15 (by decide) (by decide)) (fun k hk b => hA k b (by omega) (by omega) (by omega) (by omega))
        · rw [h76 1 (by decide)]; exact b1.trans (hI1 1 (by decide)).symm
        · rw [h76 2 (by decide)]; exact b2.trans (hI1 3 (by decide)).symm
        · rw [h76 3 (by decide)]; exact b3.trans (hI1 4 (by decide)).symm
        · have x0 := hA1 0 i (by decide) (show i < 8 by omega)
          have x1 := hA1 1 i (by decide) (show i < 8 by omega)
          rw [h76 _ (by omega), h76 _ (by omega)]
          refine ⟨(hk i hi).1.trans x0.symm, (hk i hi).2.1.trans x1.symm, ?_⟩
          obtain ⟨m, hm1, hm2⟩ := (hk i hi).2.2
          exact ⟨m, hm1, x1.trans hm2⟩
        · show sA _ 76 _ = _
          rw [h76 _ (by omega)]; exact hB3 i hi
        · rw [sR_L, y2.2.1, cpF_L]
    · exact absurd hr y0
  · rw [if_neg hr]
    obtain ⟨r', ρ', x1, x2⟩ := hm σ' (hM.of (hz.1 75 15 (by omega)) (fun b => hz.2.2 86 (by omega) b))
    rcases x2 with ⟨y0, -⟩ | ⟨-, y1, y2⟩
    · exact absurd y0 hr
    · exact ⟨-10 - r, σ', ρ', rfl, by rw [x1, y1], hJ'.moved y2.Rl⟩
