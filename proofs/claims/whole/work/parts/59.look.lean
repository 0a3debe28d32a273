/-! the reference's side: the token looked at -/
theorem pI_pI (σ : St) (k j : Nat) (v w : Int32) : pI (pI σ k j v) k j w = pI σ k j w := by
  unfold pI up2
  dsimp only
  congr 1
  funext a b
  by_cases h : a = k ∧ b = j
  · rw [if_pos h, if_pos h]
  · rw [if_neg h, if_neg h, if_neg h]
def Ml (σ : St) (A : Nat → Int32) (T : Nat) : Prop := T ≤ 150 ∧ sI σ 75 15 = nI T ∧ ∀ i, i < T → sA σ 86 i = A i
/-- nothing but the four numbers of the token has changed -/
def Fz (σ τ : St) : Prop := (∀ c b, ¬ (c = 75 ∧ 16 ≤ b ∧ b ≤ 19) → sI τ c b = sI σ c b) ∧ τ.2 = σ.2
theorem Fz.rf {σ : St} : Fz σ σ := ⟨fun _ _ _ => rfl, rfl⟩
theorem Fz.tr {σ τ υ : St} (h : Fz σ τ) (h2 : Fz τ υ) : Fz σ υ := ⟨fun c b q => (h2.1 c b q).trans (h.1 c b q), h2.2.trans h.2⟩
theorem Fz.p {σ τ : St} (h : Fz σ τ) {j : Nat} {v : Int32} (h1 : 16 ≤ j) (h2 : j ≤ 19) : Fz σ (pI τ 75 j v) := ⟨fun c b q => by rw [sI_pI, if_neg (fun e => q ⟨e.1, by omega, by omega⟩)]; exact h.1 c b q, h.2⟩
theorem Fz.A {σ τ : St} (h : Fz σ τ) (k b : Nat) : sA τ k b = sA σ k b := by unfold sA; rw [h.2]
theorem Ml.fz {σ τ : St} {A : Nat → Int32} {T : Nat} (h : Ml σ A T) (hf : Fz σ τ) : Ml τ A T := ⟨h.1, (hf.1 75 15 (by omega)).trans h.2.1, fun i hi => (hf.A 86 i).trans (h.2.2 i hi)⟩
theorem m_small (x : Int32) (σ : St) : f_X6_isSmall x σ = some (if Pl x then 1 else 0, σ) := by
  unfold f_X6_isSmall
  rw [m_inI x 97 122 97 122 rfl rfl, bd_s, gb10]
theorem m_fig (x : Int32) (σ : St) : f_X6_isFigure x σ = some (if Pf x then 1 else 0, σ) := by
  unfold f_X6_isFigure
  rw [m_inI x 48 57 48 57 rfl rfl, bd_s, gb10]
theorem g150 {m : Nat} (h : m < 150) : ¬ (nI m < 0 ∨ 150 ≤ m) := by
  rintro (q | q)
  · exact nI_pos (by omega) q
  · omega
theorem m_look5 {σ : St} {A : Nat → Int32} {T : Nat} (h : Ml σ A T) : ∀ (n i : Nat), T - i < n → i ≤ T → f_X6_lookAt_5 n (pI σ 75 16 (nI i)) = f_X6_lookAt_43 (pI σ 75 16 (nI (bk A T i))) := by
  have hT := h.1
  intro n
  induction n with
  | zero => intro i h; omega
  | succ n ih =>
    intro i hn hi
    have e15 : sI (pI σ 75 16 (nI i)) 75 15 = nI T := h.2.1
    have e16 : sI (pI σ 75 16 (nI i)) 75 16 = nI i := rfl
    rw [f_X6_lookAt_5, e15, e16]
    by_cases he : i = T
    · subst he
      rw [if_pos (nI_le (Nat.le_refl _) (by omega))]
      unfold bk
      rw [Nat.sub_self]
      rfl
    · have e86 : sA (pI σ 75 16 (nI i)) 86 i = A i := h.2.2 i (by omega)
      rw [if_neg (nI_ge (show i < T by omega) (by omega)), nI_c (by omega), gd_ok (g150 (by omega)), e86, nI_1, pI_pI]
      have e1 : bk A T i = if Pb (A i) then bk A T (i + 1) else i := by
        unfold bk
        obtain ⟨m, hm⟩ : ∃ m, T - i = m + 1 := ⟨T - i - 1, by omega⟩
        rw [hm, spn, show T - (i + 1) = m by omega]
      rw [e1]
      by_cases hb : A i = 32
      · rw [if_pos hb, if_pos hb]
        exact ih (i + 1) (by omega) (by omega)
      · rw [if_neg hb, if_neg hb]
/-- the length of a word or number: kind t at j, w so far -/
theorem m_look136 {σ : St} {A : Nat → Int32} {T j : Nat} (P : Int32 → Prop) [DecidablePred P] (h : Ml σ A T) (h16 : sI σ 75 16 = nI j) (ht : (sI σ 75 18 = 1 ∧ ∀ x (ρ : St), f_X6_isSmall x ρ = some (if P x then 1 else 0, ρ)) ∨ (¬ sI σ 75 18 = 1 ∧ ∀ x (ρ : St), f_X6_isFigure x ρ = some (if P x then 1 else 0, ρ))) : ∀ (n w : Nat), T - (j + w) + 1 < n → j + w ≤ T → f_X6_lookAt_136 n 1 (pI σ 75 17 (nI w)) = f_X6_lookAt_215 (pI σ 75 17 (nI (spn P A (T - (j + w)) (j + w) - j))) := by
  have hT := h.1
  intro n
  induction n with
  | zero => intro w h; omega
  | succ n ih =>
    intro w hn hw
    have e15 : sI (pI σ 75 17 (nI w)) 75 15 = nI T := h.2.1
    have e16 : sI (pI σ 75 17 (nI w)) 75 16 = nI j := h16
    have e17 : sI (pI σ 75 17 (nI w)) 75 17 = nI w := rfl
    have e18 : sI (pI σ 75 17 (nI w)) 75 18 = sI σ 75 18 := rfl
    rw [f_X6_lookAt_136, if_neg (by decide), e15, e16, e17, e18, nI_add]
    by_cases he : j + w = T
    · rw [if_pos (nI_le (by omega) (by omega)), he, Nat.sub_self, spn, show T - j = w by omega]
    · have e86 : sA (pI σ 75 17 (nI w)) 86 (j + w) = A (j + w) := h.2.2 _ (by omega)
      rw [if_neg (nI_ge (show j + w < T by omega) (by omega)), nI_c (by omega), gd_ok (g150 (by omega)), e86]
      obtain ⟨m, hm⟩ : ∃ m, T - (j + w) = m + 1 := ⟨T - (j + w) - 1, by omega⟩
      have key : f_X6_lookAt_193 (f_X6_lookAt_136 n) (if P (A (j + w)) then 1 else 0) (pI σ 75 17 (nI w)) = f_X6_lookAt_215 (pI σ 75 17 (nI (spn P A (T - (j + w)) (j + w) - j))) := by
        unfold f_X6_lookAt_193 f_X6_lookAt_208
        rw [hm, spn]
        by_cases hp : P (A (j + w))
        · rw [if_pos hp, if_pos hp, if_neg (by decide), e17, nI_1, pI_pI, ih (w + 1) (by omega) (by omega), show T - (j + (w + 1)) = m by omega, show j + (w + 1) = j + w + 1 by omega]
        · rw [if_neg hp, if_neg hp, if_pos rfl, e17, Int32.add_zero, pI_pI, show j + w - j = w by omega]
          obtain ⟨n', rfl⟩ : ∃ n', n = n' + 1 := ⟨n - 1, by omega⟩
          rw [f_X6_lookAt_136, if_pos rfl]
      rcases ht with ⟨h1, h2⟩ | ⟨h1, h2⟩
      · rw [if_pos h1, h2, bd_s]; exact key
      · rw [if_neg h1, h2, bd_s]; exact key
/-- its value, while it has two figures at most -/
theorem m_look218 {σ : St} {A : Nat → Int32} {T j w : Nat} (h : Ml σ A T) (h16 : sI σ 75 16 = nI j) (h17 : sI σ 75 17 = nI w) (h18 : sI σ 75 18 = 2) (hw : j + w ≤ T) : ∀ (n p : Nat) (v : Int32), 2 - p < n → p ≤ 2 → p ≤ w → f_X6_lookAt_218 n (nI p) (pI σ 75 19 v) = f_X6_lookAt_274 (pI σ 75 19 (nmf A (min 2 w - p) (j + p) v)) := by
  have hT := h.1
  intro n
  induction n with
  | zero => intro p v h; omega
  | succ n ih =>
    intro p v hn hp hpw
    have e16 : sI (pI σ 75 19 v) 75 16 = nI j := h16
    have e17 : sI (pI σ 75 19 v) 75 17 = nI w := h17
    have e18 : sI (pI σ 75 19 v) 75 18 = 2 := h18
    have e19 : sI (pI σ 75 19 v) 75 19 = v := rfl
    rw [f_X6_lookAt_218, e16, e17, e18, e19]
    by_cases h1 : p = w
    · rw [if_pos (nI_le (by omega) (by omega)), show min 2 w - p = 0 by omega]
      rfl
    · rw [if_neg (nI_ge (show p < w by omega) (by omega))]
      by_cases h2 : p = 2
      · subst h2
        rw [if_pos (by decide), show min 2 w - 2 = 0 by omega]
        rfl
      · have e86 : sA (pI σ 75 19 v) 86 (j + p) = A (j + p) := h.2.2 _ (by omega)
        rw [if_neg (show ¬ (2 : Int32) ≤ nI p from nI_ge (b := 2) (by omega) (by decide)), if_pos rfl, nI_add, nI_c (by omega), gd_ok (g150 (by omega)), e86, pI_pI, nI_1, ih (p + 1) _ (by omega) (by omega) (by omega)]
        obtain ⟨m, hm⟩ : ∃ m, min 2 w - p = m + 1 := ⟨min 2 w - p - 1, by omega⟩
        rw [hm, nmf, show min 2 w - (p + 1) = m by omega, show j + (p + 1) = j + p + 1 by omega]
/-- the token at j is looked at -/
def Tk (τ : St) (A : Nat → Int32) (T j : Nat) : Prop := sI τ 75 16 = nI j ∧ sI τ 75 17 = nI (wdt A T j) ∧ sI τ 75 18 = nI (knd A T j) ∧ (knd A T j = 2 → sI τ 75 19 = nmf A (wdt A T j) j 0)
theorem m_look43 {σ : St} {A : Nat → Int32} {T j : Nat} (h : Ml σ A T) (hj : j ≤ T) (h16 : sI σ 75 16 = nI j) : ∃ τ, f_X6_lookAt_43 σ = some τ ∧ Tk τ A T j ∧ Fz σ τ := by
  have hT := h.1
  unfold f_X6_lookAt_43
  rw [h16, h.2.1]
  by_cases he : j = T
  · subst he
    rw [if_pos rfl]
    refine ⟨_, rfl, ⟨h16, ?_, ?_, fun q => ?_⟩, ((Fz.rf.p (by decide) (by decide)).p (by decide) (by decide)).p (by decide) (by decide)⟩
    · unfold wdt; rw [if_pos (Nat.le_refl _)]; rfl
    · unfold knd; rw [if_pos (Nat.le_refl _)]; rfl
    · unfold knd at q; rw [if_pos (Nat.le_refl _)] at q; exact absurd q (by decide)
  · have hjT : ¬ T ≤ j := by omega
    have hb := tke_b (A := A) (show j < T by omega)
    rw [if_neg (fun e => he ((nI_eq (by omega) (by omega)).mp e)), nI_c (by omega), gd_ok (g150 (by omega)), h.2.2 j (by omega), m_small, bd_s, if10]
    generalize hσ2 : pI (pI (pI σ 75 17 0) 75 18 0) 75 19 0 = σ2
    have f2 : Fz σ σ2 := by rw [← hσ2]; exact ((Fz.rf.p (by decide) (by decide)).p (by decide) (by decide)).p (by decide) (by decide)
    have z16 : sI σ2 75 16 = nI j := by rw [← hσ2]; exact h16
    have z19 : sI σ2 75 19 = 0 := by rw [← hσ2]; rfl
    have hM2 : Ml σ2 A T := h.fz f2
    have hM3 : ∀ t : Int32, Ml (pI σ2 75 18 t) A T := fun t => hM2.fz (Fz.rf.p (by decide) (by decide))
    /- a kind that isn't 2 stays -/
    have fin : ∀ (t : Nat) (w : Nat), t ≠ 2 → t ≤ 4 → 1 ≤ w → w ≤ 150 → knd A T j = t → wdt A T j = w → ∃ τ, f_X6_lookAt_215 (pI (pI σ2 75 18 (nI t)) 75 17 (nI w)) = some τ ∧ Tk τ A T j ∧ Fz σ τ := by
      intro t w h1 h2 h3 h3' h4 h5
      have n2 : ¬ nI t = 2 := fun e => h1 ((nI_eq (b := 2) (by omega) (by decide)).mp e)
      have e17 : sI (pI (pI σ2 75 18 (nI t)) 75 17 (nI w)) 75 17 = nI w := rfl
      have e18 : sI (pI (pI σ2 75 18 (nI t)) 75 17 (nI w)) 75 18 = nI t := rfl
      unfold f_X6_lookAt_215
      rw [show FU = 999 + 1 from rfl, f_X6_lookAt_218, e17, e18, if_neg (show ¬ nI w ≤ 0 from nI_ge (a := 0) (by omega) (by omega)), if_neg (by decide), if_neg n2]
      unfold f_X6_lookAt_274
      rw [e18, if_neg n2]
      refine ⟨_, rfl, ⟨z16, ?_, ?_, fun q => by omega⟩, ((f2.p (by decide) (by decide)).p (by decide) (by decide)).p (by decide) (by decide)⟩
      · rw [h5]; rfl
      · rw [h4]; rfl
    have k0 : knd A T j = if Pl (A j) then 1 else if Pf (A j) then (if tke A T j - j ≤ 2 then 2 else 4) else if A j = 59 then 3 else 4 := by unfold knd; rw [if_neg hjT]
    have w0 : wdt A T j = tke A T j - j := by unfold wdt; rw [if_neg hjT]
    unfold f_X6_lookAt_114 f_X6_lookAt_135
    by_cases h1 : Pl (A j)
    · rw [if_pos h1, if_neg (by decide)]
      change ∃ τ, f_X6_lookAt_136 FU 1 (pI (pI σ2 75 18 (nI 1)) 75 17 (nI 1)) = some τ ∧ _
      rw [m_look136 (σ := pI σ2 75 18 (nI 1)) Pl (hM3 _) z16 (Or.inl ⟨rfl, m_small⟩) FU 1 (FU_lt (by omega)) (by omega)]
      have et : tke A T j = spn Pl A (T - (j + 1)) (j + 1) := by unfold tke; rw [if_pos h1]
      rw [← et]
      exact fin 1 (tke A T j - j) (by decide) (by decide) (by omega) (by omega) (by rw [k0, if_pos h1]) w0
    · rw [if_neg h1, m_fig, bd_s, if10]
      rw [if_neg h1] at k0
      by_cases h2 : Pf (A j)
      · rw [if_pos h2, if_neg (by decide)]
        change ∃ τ, f_X6_lookAt_136 FU 1 (pI (pI σ2 75 18 (nI 2)) 75 17 (nI 1)) = some τ ∧ _
        rw [if_pos h2] at k0
        rw [m_look136 (σ := pI σ2 75 18 (nI 2)) Pf (hM3 _) z16 (Or.inr ⟨(by decide : ¬ nI 2 = 1), m_fig⟩) FU 1 (FU_lt (by omega)) (by omega)]
        have et : tke A T j = spn Pf A (T - (j + 1)) (j + 1) := by unfold tke; rw [if_neg h1, if_pos h2]
        rw [← et]
        generalize hσ4 : pI (pI σ2 75 18 (nI 2)) 75 17 (nI (tke A T j - j)) = σ4
        have f4 : Fz σ σ4 := by rw [← hσ4]; exact (f2.p (by decide) (by decide)).p (by decide) (by decide)
        have y16 : sI σ4 75 16 = nI j := by rw [← hσ4]; exact z16
        have y17 : sI σ4 75 17 = nI (tke A T j - j) := by rw [← hσ4]; rfl
        have y18 : sI σ4 75 18 = 2 := by rw [← hσ4]; rfl
        have y19 : pI σ4 75 19 0 = σ4 := by
          have e : sI σ4 75 19 = 0 := by rw [← hσ4]; exact z19
          unfold pI up2
          unfold sI at e
          have : (fun a b => if a = 75 ∧ b = 19 then (0 : Int32) else σ4.1 a b) = σ4.1 := by
            funext a b
            by_cases hab : a = 75 ∧ b = 19
            · rw [if_pos hab, hab.1, hab.2, e]
            · rw [if_neg hab]
          rw [this]
        have hl := m_look218 (h.fz f4) y16 y17 y18 (by omega) FU 0 0 (FU_lt (by decide)) (by decide) (Nat.zero_le _)
        rw [y19] at hl
        unfold f_X6_lookAt_215
        have hl2 : f_X6_lookAt_218 FU 0 σ4 = f_X6_lookAt_274 (pI σ4 75 19 (nmf A (min 2 (tke A T j - j) - 0) (j + 0) 0)) := hl
        rw [hl2]
        generalize hV : nmf A (min 2 (tke A T j - j) - 0) (j + 0) 0 = V
        unfold f_X6_lookAt_274
        have x17 : sI (pI σ4 75 19 V) 75 17 = nI (tke A T j - j) := y17
        have x18 : sI (pI σ4 75 19 V) 75 18 = 2 := y18
        rw [x17, x18, if_pos rfl]
        by_cases h3 : tke A T j - j ≤ 2
        · rw [if_pos (show nI (tke A T j - j) ≤ 2 from nI_le (b := 2) h3 (by decide))]
          rw [if_pos h3] at k0
          refine ⟨_, rfl, ⟨y16, ?_, ?_, fun _ => ?_⟩, (f4.p (by decide) (by decide)).p (by decide) (by decide)⟩
          · rw [w0]; exact y17
          · rw [k0]; rfl
          · show V = _
            rw [← hV, w0, Nat.add_zero, show min 2 (tke A T j - j) - 0 = tke A T j - j by omega]
        · rw [if_neg (show ¬ nI (tke A T j - j) ≤ 2 from nI_ge (a := 2) (by omega) (by omega))]
          rw [if_neg h3] at k0
          refine ⟨_, rfl, ⟨y16, ?_, ?_, fun q => by omega⟩, (f4.p (by decide) (by decide)).p (by decide) (by decide)⟩
          · rw [w0]; exact y17
          · rw [k0]; rfl
      · rw [if_neg h2]
        rw [if_neg h2] at k0
        have et : tke A T j = j + 1 := by unfold tke; rw [if_neg h1, if_neg h2]
        have w1 : wdt A T j = 1 := by rw [w0, et]; omega
        by_cases h3 : A j = 59
        · rw [if_pos h3, if_pos (by decide), show FU = 999 + 1 from rfl, f_X6_lookAt_136, if_pos rfl]
          exact fin 3 1 (by decide) (by decide) (by decide) (by decide) (by rw [k0, if_pos h3]) w1
        · rw [if_neg h3, if_pos (by decide), show FU = 999 + 1 from rfl, f_X6_lookAt_136, if_pos rfl]
          exact fin 4 1 (by decide) (by decide) (by decide) (by decide) (by rw [k0, if_neg h3]) w1
theorem m_lookAt {σ : St} {A : Nat → Int32} {T i : Nat} (h : Ml σ A T) (hi : i ≤ T) : ∃ τ, f_X6_lookAt (nI i) σ = some τ ∧ Tk τ A T (bk A T i) ∧ Fz σ τ := by
  have hT := h.1
  have f1 : ∀ v, Fz σ (pI σ 75 16 v) := fun v => Fz.rf.p (by decide) (by decide)
  obtain ⟨τ, e, hk, hf⟩ := m_look43 (h.fz (f1 (nI (bk A T i)))) (bk_b (A := A) hi).2 rfl
  refine ⟨τ, ?_, hk, (f1 _).tr hf⟩
  unfold f_X6_lookAt
  rw [m_look5 h FU i (FU_lt (by omega)) hi, e]
theorem m_goOn {σ : St} {A : Nat → Int32} {T j : Nat} (h : Ml σ A T) (hj : j < T) (hk : Tk σ A T j) : ∃ τ, f_X6_goOn σ = some τ ∧ Tk τ A T (bk A T (tke A T j)) ∧ Fz σ τ := by
  have hb := tke_b (A := A) hj
  obtain ⟨τ, e, h1, h2⟩ := m_lookAt h hb.2
  refine ⟨τ, ?_, h1, h2⟩
  unfold f_X6_goOn
  have w0 : wdt A T j = tke A T j - j := by unfold wdt; rw [if_neg (by omega)]
  rw [hk.1, hk.2.1, nI_add, w0, show j + (tke A T j - j) = tke A T j by omega, e, bv_s]
