theorem e_rb {dn : Int32} (hd : dn = 0 ∨ dn = 1) {L p : Nat} {σ : St} (hL : sI σ 1 0 = nI L) (hL8 : L ≤ 8) (h : p + 1 < L) : f_X0_roadBehind_1 dn (nI p) σ = some (sA σ 5 (rb dn L (p + 1)), σ) := by
  have := e_roadBehind (j := p + 1) hd hL hL8 (by omega) h
  rw [nI_pred] at this
  exact this
theorem m_rf {dn : Int32} (hd : dn = 0 ∨ dn = 1) {L p : Nat} {σ : St} (hL : sA σ 76 0 = nI L) (hL8 : L ≤ 8) (h : p + 1 < L) : f_X6_roadFrom dn (nI p) σ = some (sA σ 76 (8 + 3 * rb dn L (p + 1)), σ) := by
  have := m_roadFrom (j := p + 1) hd hL hL8 (by omega) h
  rw [nI_pred] at this
  exact this
theorem key_loop {σ : St} {L B : Nat} {st : Int32} {KD RD : Nat → Int32} (h : RI σ L B st KD RD) {dn : Int32} (hd : dn = 0 ∨ dn = 1) {q : Nat} (hq : q < L) : ∀ (n p : Nat) (x : Int32), q - p < n → p ≤ q → ∃ r, f_X5_key_47 n dn (nI q) x (nI p) σ = some (r, σ) ∧ f_X6_key_41 n dn (nI q) x (nI p) σ = some (r, σ) := by
  obtain ⟨h1, h2, h3, h4, h5, h6, h7, h8, h9, h10, h11⟩ := h
  intro n
  induction n with
  | zero => intro p x h; omega
  | succ n ih =>
    intro p x hn hp
    rw [f_X5_key_47, f_X6_key_41]
    by_cases he : p = q
    · subst he
      rw [if_pos (nI_le (Nat.le_refl _) (by omega)), if_pos (nI_le (Nat.le_refl _) (by omega))]
      exact ⟨x, rfl, rfl⟩
    · have hb : rb dn L (p + 1) < L := rb_lt (by omega)
      rw [if_neg (nI_ge (show p < q by omega) (by omega)), if_neg (nI_ge (show p < q by omega) (by omega)), e_rb hd h1 h2 (by omega), bd_s, m_rf hd h8 h2 (by omega), bd_s, f_X5_halfCutUp, bd_s, f_X6_walk, if_pos rfl, bd_s, (h6 _ hb).2, (h11 _ hb).2, nI_1]
      exact ih (p + 1) _ (by omega) (by omega)
theorem eq_key {σ : St} (h : JJ σ) (d x y : Int32) : EQI (f_X5_key d x y) (f_X6_key d x y) σ := by
  obtain ⟨L, B, st, KD, RD, hri⟩ := h.ri
  have hL : sI σ 1 0 = nI L := hri.1
  have hA : sA σ 76 0 = nI L := hri.2.2.2.2.2.2.2.1
  have hL8 : L ≤ 8 := hri.2.1
  have hAb : sA (pI σ 0 10 (sI σ 0 10 + 1)) 76 0 = nI L := hA
  unfold EQI f_X5_key f_X6_key f_X5_refusedBad f_X6_bad
  simp only [e_within, e_has hL, m_isDown, bd_s, if10]
  by_cases h1 : 0 ≤ d ∧ d ≤ 1
  · by_cases h2 : 0 ≤ x ∧ x ≤ nI L - 1
    · by_cases h3 : 0 ≤ y ∧ y ≤ nI L - 1
      · by_cases h4 : x ≤ y
        · simp only [if_pos h1, if_pos h2, if_pos h3, if_pos h4]
          obtain ⟨p, hp, rfl⟩ := (has_iff hL8).mp h2
          obtain ⟨q, hq, rfl⟩ := (has_iff hL8).mp h3
          have hpq : p ≤ q := (nI_leI (by omega) (by omega)).mp h4
          obtain ⟨r, e1, e2⟩ := key_loop hri (i01 h1) hq FU p 0 (FU_lt (by omega)) hpq
          refine ⟨r, σ, σ, e1, ?_, h⟩
          rw [m_isLock hA, bd_s, if_pos h2, if_neg (by decide), m_isLock hA, bd_s, if_pos h3, if_neg (by decide)]
          exact e2
        · simp only [if_pos h1, if_pos h2, if_pos h3, if_neg h4]
          refine ⟨_, _, _, rfl, ?_, h.bad⟩
          rw [m_isLock hAb, bd_s, if_pos h2, if_neg (by decide), m_isLock hAb, bd_s, if_pos h3, if_neg (by decide)]
      · simp only [if_pos h1, if_pos h2, if_neg h3]
        refine ⟨_, _, _, rfl, ?_, h.bad⟩
        rw [m_isLock hAb, bd_s, if_pos h2, if_neg (by decide), m_isLock hAb, bd_s, if_neg h3, if_pos rfl]
    · simp only [if_pos h1, if_neg h2]
      refine ⟨_, _, _, rfl, ?_, h.bad⟩
      rw [m_isLock hAb, bd_s, if_neg h2, if_pos rfl]
  · simp only [if_neg h1]
    exact ⟨_, _, _, rfl, rfl, h.bad⟩
/-! which leads fit the readings -/
def ftr (P : Nat → Bool) : Nat → Nat → Bool
  | 0, _ => true
  | n + 1, j => P j && ftr P n (j + 1)
/-- the readings, on both sides -/
def RG (σ : St) (L rd : Nat) (P V : Nat → Nat) (W : Nat → Int32) : Prop := rd ≤ 6 ∧ L ≤ 8 ∧ sI σ 1 5 = nI rd ∧ sA σ 76 4 = nI rd ∧ ∀ j, j < rd → P j < L ∧ sA σ 7 j = nI (P j) ∧ sA σ 9 j = W j ∧ sA σ 76 (30 + 2 * j) = nI (P j) ∧ sA σ 76 (31 + 2 * j) = W j
theorem JJ.rg {σ : St} (h : JJ σ) : ∃ L rd P W, sI σ 1 0 = nI L ∧ RG σ L rd P P W := by
  obtain ⟨L, rd, un, hL8, hrd6, hun, q0, b0, b1, b2, b3, q5, b4, q6, b5, hk, hb, hr, hu⟩ := h.1.x
  refine ⟨L, rd, fun j => (sA σ 7 j).toNatClampNeg, sA σ 9, q0, hrd6, hL8, q5, b4, fun j hj => ?_⟩
  obtain ⟨r1, r2, p, hp, ep⟩ := hr j hj
  have e7 : sA σ 7 j = nI p := ep
  have ec : (sA σ 7 j).toNatClampNeg = p := by rw [e7, nI_c (by omega)]
  dsimp only
  rw [ec]
  exact ⟨hp, e7, rfl, r1.trans ep, r2⟩
theorem RG.moved {σ τ : St} {L rd : Nat} {P V : Nat → Nat} {W : Nat → Int32} (h : RG σ L rd P V W) (hR : Rl σ τ) : RG τ L rd P V W := by
  obtain ⟨h1, h2, h3, h4, h5⟩ := h
  have e1 := (hR.1 1 (by decide)).1
  have e7 := (hR.1 7 (by decide)).2.2
  have e9 := (hR.1 9 (by decide)).2.2
  have e76 := hR.2.2.2.2.2.1 76 (by decide) (by decide)
  refine ⟨h1, h2, (e1 5).trans h3, (e76 4).trans h4, fun j hj => ?_⟩
  obtain ⟨q1, q2, q3, q4, q5⟩ := h5 j hj
  exact ⟨q1, (e7 j).trans q2, (e9 j).trans q3, (e76 _).trans q4, (e76 _).trans q5⟩
theorem e_fit_loop {σ : St} {L rd : Nat} {P V : Nat → Nat} {W I : Nat → Int32} (h : RG σ L rd P V W) (hI : ∀ i, i < L → sA σ 65 i = I i) : ∀ (n j : Nat), rd - j < n → j ≤ rd → f_X5_readingsFit_2 n (nI j) σ = some (if ftr (fun j => decide (I (P j) = W j)) (rd - j) j then 1 else 0, σ) := by
  obtain ⟨h1, h2, h3, h4, h5⟩ := h
  intro n
  induction n with
  | zero => intro j h; omega
  | succ n ih =>
    intro j hn hj
    rw [f_X5_readingsFit_2, h3]
    by_cases he : j = rd
    · subst he
      rw [if_pos (nI_le (Nat.le_refl _) (by omega)), Nat.sub_self]
      rfl
    · obtain ⟨q1, q2, q3, q4, q5⟩ := h5 j (by omega)
      obtain ⟨m, hm⟩ : ∃ m, rd - j = m + 1 := ⟨rd - j - 1, by omega⟩
      have em : rd - (j + 1) = m := by omega
      rw [if_neg (nI_ge (show j < rd by omega) (by omega)), e_get (a := 7) (show j < 6 by omega), bd_s, q2, e_get (a := 65) (show P j < 8 by omega), bd_s, e_get (a := 9) (show j < 6 by omega), bd_s, hI _ q1, q3, hm, ftr, nI_1]
      by_cases hc : I (P j) = W j
      · rw [if_pos hc, ih (j + 1) (by omega) (by omega), em]
        simp [hc]
      · rw [if_neg hc]
        simp [hc]
theorem m_so_loop {σ : St} {L rd : Nat} {P V : Nat → Nat} {W I : Nat → Int32} (h : RG σ L rd P V W) (hI : ∀ i, i < L → sA σ 82 i = I i) : ∀ (n j : Nat) (b : Bool), rd - j < n → j ≤ rd → f_X6_areSo_4 n (if b then 1 else 0) (nI j) σ = some (if b && ftr (fun j => decide (I (P j) = W j)) (rd - j) j then 1 else 0, σ) := by
  obtain ⟨h1, h2, h3, h4, h5⟩ := h
  intro n
  induction n with
  | zero => intro j b h; omega
  | succ n ih =>
    intro j b hn hj
    rw [f_X6_areSo_4, h4]
    by_cases he : j = rd
    · subst he
      rw [if_pos (nI_le (Nat.le_refl _) (by omega)), Nat.sub_self, ftr, gb10, Bool.and_true]
    · obtain ⟨q1, q2, q3, q4, q5⟩ := h5 j (by omega)
      obtain ⟨m, hm⟩ : ∃ m, rd - j = m + 1 := ⟨rd - j - 1, by omega⟩
      have em : rd - (j + 1) = m := by omega
      have k0 : ∀ {m : Nat}, m < 122 → ¬ (nI m < 0 ∨ 122 ≤ m) := by
        intro m hm
        rintro (q | q)
        · exact nI_pos (by omega) q
        · omega
      have e30 : (30 : Int32) + 2 * nI j = nI (30 + 2 * j) := by
        rw [show (30 : Int32) = nI 30 from rfl, show (2 : Int32) = nI 2 from rfl, pk_mul, nI_add]
      have e31 : nI (30 + 2 * j) + 1 = nI (31 + 2 * j) := by rw [nI_1]; congr 1; omega
      have h54 : ∀ t : Bool, f_X6_areSo_4 n (if t then 1 else 0) (nI j + 1) σ = some (if t && ftr (fun j => decide (I (P j) = W j)) m (j + 1) then 1 else 0, σ) := by
        intro t
        rw [nI_1, ih (j + 1) t (by omega) (by omega), em]
      have h0 := h54 false
      have h1' := h54 true
      rw [if_neg (by decide)] at h0
      rw [if_pos rfl] at h1'
      rw [if_neg (nI_ge (show j < rd by omega) (by omega)), hm, ftr]
      unfold f_X6_areSo_54 f_X6_areSo_55
      cases b
      · rw [if_pos (by decide), h0]
        rfl
      · rw [if_neg (by decide), e30, e31, nI_c (by omega), nI_c (by omega), q4, q5, nI_c (by omega), gd_ok (k0 (by omega)), gd_ok (by
          rintro (q | q)
          · exact nI_pos (by omega) q
          · omega), gd_ok (k0 (by omega)), hI _ q1, h0, h1']
        by_cases hc : I (P j) = W j
        · rw [if_pos hc]
          simp [hc]
        · rw [if_neg hc]
          simp [hc]
theorem leads_loop {L B : Nat} {st sh : Int32} {KD RD : Nat → Int32} {dn ah : Int32} {rd : Nat} {P V : Nat → Nat} {W : Nat → Int32} (hd : dn = 0 ∨ dn = 1) (hah : ah = 0 ∨ ah = 1 ∨ ah = 2) : ∀ (n k : Nat) (x : Int32) (σ τ : St), 10 - k < n → 1 ≤ k → k ≤ 10 → RI σ L B st KD RD → RG σ L rd P V W → RI τ L B st KD RD → RG τ L rd P V W → ∃ r σ' τ', f_X5_leads_20 n dn ah sh x (nI k) σ = some (r, σ') ∧ Tr σ σ' ∧ f_X6_leads_42 n dn ah sh x (nI k) τ = some (r, τ') ∧ Mr τ τ' := by
  intro n
  induction n with
  | zero => intro k x σ τ h; omega
  | succ n ih =>
    intro k x σ τ hn hk1 hk h1 h2 h3 h4
    rw [f_X5_leads_20, f_X6_leads_42]
    by_cases he : k = 10
    · subst he
      rw [if_pos (by decide), if_pos (by decide)]
      exact ⟨x, σ, τ, rfl, Tr.rf, rfl, Mr.rf⟩
    · have hk9 : k ≤ 9 := by omega
      obtain ⟨σ1, e1, hT, hq, ha, -⟩ := c_run h1 (ah := ah) (sh := sh) hd hk1 hk9
      obtain ⟨τ1, e2, hM, hb, -⟩ := m_runNow h3 (sh := sh) hd hah hk1 hk9
      have r1 := h2.moved hT.Rl
      have r2 := h4.moved hM.Rl
      have f1 := e_fit_loop r1 (fun i hi => (ha i hi).2.1) FU 0 (FU_lt (by have := r1.1; omega)) (by omega)
      have f2 := m_so_loop r2 (fun i hi => (hb i hi).2.1) FU 0 true (FU_lt (by have := r2.1; omega)) (by omega)
      have f1' : f_X5_readingsFit σ1 = some (if ftr (fun j => decide ((rn L B dn ah st (2 * sh) k KD RD L).2.1 (P j) = W j)) (rd - 0) 0 then 1 else 0, σ1) := f1
      have f2' : f_X6_areSo τ1 = some (if ftr (fun j => decide ((rn L B dn ah st (2 * sh) k KD RD L).2.1 (P j) = W j)) (rd - 0) 0 then 1 else 0, τ1) := by
        rw [Bool.true_and] at f2
        exact f2
      rw [if_neg (show ¬ (9 : Int32) < nI k from nI_nlt (b := k) (a := 9) (by omega) (by omega)), if_neg (show ¬ (10 : Int32) ≤ nI k from nI_ge (b := 10) (by omega) (by decide)), e1, f1', bd_s, e2, bd_s, f2', bd_s]
      unfold f_X5_leads_71 f_X6_leads_77
      generalize ftr (fun j => decide ((rn L B dn ah st (2 * sh) k KD RD L).2.1 (P j) = W j)) (rd - 0) 0 = b
      have fin : ∀ y : Int32, ∃ r σ' τ', f_X5_leads_20 n dn ah sh y (nI k + 1) σ1 = some (r, σ') ∧ Tr σ σ' ∧ f_X6_leads_42 n dn ah sh y (nI k + 1) τ1 = some (r, τ') ∧ Mr τ τ' := by
        intro y
        rw [nI_1]
        obtain ⟨r, σ', τ', q1, q2, q3, q4⟩ := ih (k + 1) y σ1 τ1 (by omega) (by omega) (by omega) (h1.moved hT.Rl) r1 (h3.moved hM.Rl) r2
        exact ⟨r, σ', τ', q1, hT.tr q2, q3, hM.tr q4⟩
      cases b
      · rw [if_pos (by decide), if_pos (by decide), Int32.or_zero]
        exact fin x
      · rw [if_neg (by decide), if_neg (by decide)]
        exact fin _
theorem eq_leads {σ : St} (h : JJ σ) (d a s : Int32) : EQI (f_X5_leads d a s) (f_X6_leads d a s) σ := by
  unfold EQI f_X5_leads f_X6_leads f_X5_refusedBad f_X6_bad
  simp only [e_isLed, m_isDown, m_inI a 1 2 1 2 rfl rfl, m_inI s 0 1 0 1 rfl rfl, bd_s, if10]
  by_cases h1 : 0 ≤ d ∧ d ≤ 1
  · by_cases h2 : 1 ≤ a ∧ a ≤ 2
    · by_cases h3 : 0 ≤ s ∧ s ≤ 1
      · simp only [if_pos h1, if_pos h2, if_pos h3, if_pos (And.intro h1 (And.intro h2 h3))]
        obtain ⟨L, B, st, KD, RD, hri⟩ := h.ri
        obtain ⟨L', rd, P, W, eL, hrg⟩ := h.rg
        have hLL : L' = L := by
          have e := eL.symm.trans hri.1
          exact (nI_eq (by have := hrg.2.1; omega) (by have := hri.2.1; omega)).mp e
        subst hLL
        obtain ⟨r, σ', τ', q1, q2, -, -⟩ := leads_loop (sh := s) (i01 h1) (a12 h2) FU 1 0 σ σ (FU_lt (by omega)) (by decide) (by decide) hri hrg hri hrg
        obtain ⟨r', ρ, υ, hp1, -, hp3, hp4⟩ := leads_loop (sh := s) (i01 h1) (a12 h2) FU 1 0 σ σ' (FU_lt (by omega)) (by decide) (by decide) hri hrg (hri.moved q2.Rl) (hrg.moved q2.Rl)
        have er : r' = r := by
          rw [q1] at hp1
          exact (congrArg Prod.fst (Option.some.inj hp1)).symm
        subst er
        exact ⟨r', σ', υ, q1, hp3, h.moved (q2.Rl.tr hp4.Rl)⟩
      · simp only [if_pos h1, if_pos h2, if_neg h3, if_neg (fun q : (0 ≤ d ∧ d ≤ 1) ∧ (1 ≤ a ∧ a ≤ 2) ∧ (0 ≤ s ∧ s ≤ 1) => h3 q.2.2)]
        exact ⟨_, _, _, rfl, rfl, h.bad⟩
    · simp only [if_pos h1, if_neg h2, if_neg (fun q : (0 ≤ d ∧ d ≤ 1) ∧ (1 ≤ a ∧ a ≤ 2) ∧ (0 ≤ s ∧ s ≤ 1) => h2 q.2.1)]
      exact ⟨_, _, _, rfl, rfl, h.bad⟩
  · simp only [if_neg h1, if_neg (fun q : (0 ≤ d ∧ d ≤ 1) ∧ (1 ≤ a ∧ a ≤ 2) ∧ (0 ≤ s ∧ s ≤ 1) => h1 q.1)]
    exact ⟨_, _, _, rfl, rfl, h.bad⟩
