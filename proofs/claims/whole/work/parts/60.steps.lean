/-! reading: steps of the two sides -/
def nv (A : Nat → Int32) (T i : Nat) : Int32 := nmf A (wdt A T i) i 0
abbrev okN (A : Nat → Int32) (T i : Nat) (lo hi : Int32) : Prop := knd A T i = 2 ∧ lo ≤ nv A T i ∧ nv A T i ≤ hi
def Kz (σ τ : St) : Prop := (∀ c b, ¬ (c = 46 ∨ (c = 72 ∧ b ≠ 0)) → sI τ c b = sI σ c b) ∧ (∀ c b, sL τ c b = sL σ c b) ∧ ∀ k, ¬ (46 ≤ k ∧ k ≤ 60) → ∀ b, sA τ k b = sA σ k b
theorem Kz.rf {σ : St} : Kz σ σ := ⟨fun _ _ _ => rfl, fun _ _ => rfl, fun _ _ _ => rfl⟩
theorem Kz.tr {σ τ υ : St} (h : Kz σ τ) (h2 : Kz τ υ) : Kz σ υ := ⟨fun c b q => (h2.1 c b q).trans (h.1 c b q), fun c b => (h2.2.1 c b).trans (h.2.1 c b), fun k q b => (h2.2.2 k q b).trans (h.2.2 k q b)⟩
theorem Kz.p {σ : St} {j : Nat} {v : Int32} (h : j ≠ 0) : Kz σ (pI σ 72 j v) := ⟨fun c b q => by rw [sI_pI, if_neg (fun e => q (Or.inr ⟨e.1, by omega⟩))], fun _ _ => rfl, fun _ _ _ => rfl⟩
theorem Kz.g {σ : St} {j : Nat} {v : Int32} : Kz σ (pI σ 46 j v) := ⟨fun c b q => by rw [sI_pI, if_neg (fun e => q (Or.inl e.1))], fun _ _ => rfl, fun _ _ _ => rfl⟩
theorem Kz.a {σ : St} {k j : Nat} {v : Int32} (h : 46 ≤ k ∧ k ≤ 60) : Kz σ (pA σ k j v) := ⟨fun _ _ _ => rfl, fun _ _ => rfl, fun c q b => by rw [sA_pA, if_neg (fun e => q (by rw [e.1]; exact h))]⟩
theorem Cl.kz {σ τ : St} {A : Nat → Int32} {T : Nat} (h : Cl σ A T) (hk : Kz σ τ) : Cl τ A T := ⟨h.1, (hk.1 72 0 (by omega)).trans h.2.1, fun i hi => (hk.2.2 74 (by omega) i).trans (h.2.2 i hi)⟩
def Mz (σ τ : St) : Prop := (∀ c b, ¬ (c = 75 ∧ 16 ≤ b ∧ b ≤ 19) → sI τ c b = sI σ c b) ∧ (∀ c b, sL τ c b = sL σ c b) ∧ ∀ k, k ≠ 87 → k ≠ 88 → ∀ b, sA τ k b = sA σ k b
theorem Mz.rf {σ : St} : Mz σ σ := ⟨fun _ _ _ => rfl, fun _ _ => rfl, fun _ _ _ _ => rfl⟩
theorem Mz.tr {σ τ υ : St} (h : Mz σ τ) (h2 : Mz τ υ) : Mz σ υ := ⟨fun c b q => (h2.1 c b q).trans (h.1 c b q), fun c b => (h2.2.1 c b).trans (h.2.1 c b), fun k q1 q2 b => (h2.2.2 k q1 q2 b).trans (h.2.2 k q1 q2 b)⟩
theorem Fz.Mz {σ τ : St} (h : Fz σ τ) : Mz σ τ := ⟨h.1, fun c b => by unfold sL; rw [h.2], fun k _ _ b => h.A k b⟩
theorem Mz.a {σ : St} {k j : Nat} {v : Int32} (h : k = 87 ∨ k = 88) : Mz σ (pA σ k j v) := ⟨fun _ _ _ => rfl, fun _ _ => rfl, fun c q1 q2 b => by rw [sA_pA, if_neg (fun e => by omega)]⟩
theorem Mz.r {σ : St} {f : Nat → Int32} : Mz σ (sR σ 87 f) := ⟨fun _ _ _ => rfl, fun _ _ => rfl, fun c q1 q2 b => sR_o _ _ _ _ _ q1⟩
theorem Ml.mz {σ τ : St} {A : Nat → Int32} {T : Nat} (h : Ml σ A T) (hk : Mz σ τ) : Ml τ A T := ⟨h.1, (hk.1 75 15 (by omega)).trans h.2.1, fun i hi => (hk.2.2 86 (by decide) (by decide) i).trans (h.2.2 i hi)⟩
theorem Tk.same {σ τ : St} {A : Nat → Int32} {T j : Nat} (h : Tk σ A T j) (hs : ∀ b, sI τ 75 b = sI σ 75 b) : Tk τ A T j := ⟨(hs 16).trans h.1, (hs 17).trans h.2.1, (hs 18).trans h.2.2.1, fun q => (hs 19).trans (h.2.2.2 q)⟩
theorem knd_le {A : Nat → Int32} {T i : Nat} : knd A T i ≤ 4 := by
  unfold knd
  split
  · omega
  · split
    · omega
    · split
      · split <;> omega
      · split <;> omega
theorem knd_lt {A : Nat → Int32} {T i : Nat} (h : 0 < knd A T i) : i < T := by
  by_cases hi : i < T
  · exact hi
  · unfold knd at h
    rw [if_pos (by omega)] at h
    exact absurd h (by decide)
theorem Tk.k {σ : St} {A : Nat → Int32} {T j n : Nat} (h : Tk σ A T j) (hn : n < 100) : sI σ 75 18 = nI n ↔ knd A T j = n := by
  have := knd_le (A := A) (T := T) (i := j)
  rw [h.2.2.1, nI_eq (by omega) (by omega)]
theorem knd_3 {A : Nat → Int32} {T i : Nat} (hi : i < T) : knd A T i = 3 ↔ A i = 59 := by
  unfold knd
  rw [if_neg (by omega)]
  constructor
  · intro h
    by_cases h1 : Pl (A i)
    · rw [if_pos h1] at h; omega
    · rw [if_neg h1] at h
      by_cases h2 : Pf (A i)
      · rw [if_pos h2] at h
        split at h <;> omega
      · rw [if_neg h2] at h
        by_cases h3 : A i = 59
        · exact h3
        · rw [if_neg h3] at h; omega
  · intro h
    rw [if_neg (show ¬ Pl (A i) by rw [h]; decide), if_neg (show ¬ Pf (A i) by rw [h]; decide), if_pos h]
/-! the reference's tests -/
theorem m_c0 {n : Nat} {x1 x2 x3 x4 x5 x6 x7 x9 : Int32} {σ : St} : f_X6_isCalled_26 (n + 1) x1 x2 x3 x4 x5 x6 x7 0 x9 σ = some (0, σ) := by
  rw [f_X6_isCalled_26]
  by_cases h : x1 ≤ x9
  · rw [if_pos h]; rfl
  · rw [if_neg h, if_pos rfl]; rfl
theorem m_c26 {σ : St} {A c : Nat → Int32} {T j len : Nat} (h : Ml σ A T) (h16 : sI σ 75 16 = nI j) (hl : len ≤ 6) (hj : j + len ≤ T) : ∀ (n p : Nat), len - p + 1 < n → p ≤ len → f_X6_isCalled_26 n (nI len) (c 0) (c 1) (c 2) (c 3) (c 4) (c 5) 1 (nI p) σ = some (if wq A c j (len - p) p = true then 1 else 0, σ) := by
  have hT := h.1
  intro n
  induction n with
  | zero => intro p h; omega
  | succ n ih =>
    intro p hn hp
    rw [f_X6_isCalled_26]
    by_cases he : p = len
    · subst he
      rw [if_pos (nI_le (Nat.le_refl _) (by omega)), Nat.sub_self, wq, if_pos rfl]
      rfl
    · obtain ⟨m, hm⟩ : ∃ m, len - p = m + 1 := ⟨len - p - 1, by omega⟩
      rw [if_neg (nI_ge (show p < len by omega) (by omega)), if_neg (by decide), h16, nI_add, nI_c (by omega), gd_ok (g150 (by omega)), h.2.2 _ (by omega)]
      have key : f_X6_isCalled_103 (f_X6_isCalled_26 n) (nI len) (c 0) (c 1) (c 2) (c 3) (c 4) (c 5) (nI p) (c p) (A (j + p)) σ = some (if wq A c j (len - p) p = true then 1 else 0, σ) := by
        unfold f_X6_isCalled_103 f_X6_isCalled_111
        rw [hm, wq]
        by_cases hc : A (j + p) = c p
        · rw [if_pos hc, nI_1, ih (p + 1) (by omega) (by omega), show len - (p + 1) = m by omega, decide_eq_true hc, Bool.true_and]
        · obtain ⟨n', rfl⟩ : ∃ n', n = n' + 1 := ⟨n - 1, by omega⟩
          rw [if_neg hc, m_c0, decide_eq_false hc, Bool.false_and, if_neg (by decide)]
      have hp6 : p < 6 := by omega
      clear ih hn he hm
      rcases (show p = 0 ∨ p = 1 ∨ p = 2 ∨ p = 3 ∨ p = 4 ∨ p = 5 by omega) with rfl | rfl | rfl | rfl | rfl | rfl
      · rw [if_pos (by decide)]; exact key
      · rw [if_neg (by decide), if_pos (by decide)]; exact key
      · rw [if_neg (by decide), if_neg (by decide), if_pos (by decide)]; exact key
      · rw [if_neg (by decide), if_neg (by decide), if_neg (by decide), if_pos (by decide)]; exact key
      · rw [if_neg (by decide), if_neg (by decide), if_neg (by decide), if_neg (by decide), if_pos (by decide)]; exact key
      · rw [if_neg (by decide), if_neg (by decide), if_neg (by decide), if_neg (by decide), if_neg (by decide)]; exact key
theorem m_called {σ : St} {A c : Nat → Int32} {T j len : Nat} (h : Ml σ A T) (hk : Tk σ A T j) (hl : len ≤ 6) : f_X6_isCalled (nI len) (c 0) (c 1) (c 2) (c 3) (c 4) (c 5) σ = some (if isW A T j len c then 1 else 0, σ) := by
  have hT := h.1
  unfold f_X6_isCalled f_X6_isCalled_20 f_X6_isCalled_21
  have k1 := hk.k (n := 1) (by decide)
  by_cases h1 : knd A T j = 1
  · have hj := knd_lt (A := A) (T := T) (i := j) (by omega)
    have hb := tke_b (A := A) hj
    have w0 : wdt A T j = tke A T j - j := by unfold wdt; rw [if_neg (by omega)]
    rw [if_pos (show sI σ 75 18 = 1 from k1.mpr h1), hk.2.1]
    by_cases h2 : wdt A T j = len
    · rw [if_pos (show nI (wdt A T j) = nI len by rw [h2])]
      refine (m_c26 (c := c) h hk.1 hl (by omega) FU 0 (FU_lt (by omega)) (Nat.zero_le _)).trans ?_
      rw [Nat.sub_zero]
      by_cases h3 : wq A c j len 0 = true
      · rw [if_pos h3, if_pos ⟨h1, h2, h3⟩]
      · rw [if_neg h3, if_neg (fun q => h3 q.2.2)]
    · rw [if_neg (fun e => h2 ((nI_eq (by omega) (by omega)).mp e)), if_neg (fun q => h2 q.2.1)]
      exact m_c0 (n := 999)
  · rw [if_neg (show ¬ sI σ 75 18 = 1 from fun e => h1 (k1.mp e)), if_neg (fun q => h1 q.1)]
    exact m_c0 (n := 999)
theorem m_eats {σ : St} {A : Nat → Int32} {T j q : Nat} {lo hi : Int32} (h : Ml σ A T) (hk : Tk σ A T j) (hq : q < 3) : (¬ okN A T j lo hi → f_X6_eats (nI q) lo hi σ = some (0, σ)) ∧ (okN A T j lo hi → ∃ τ, f_X6_eats (nI q) lo hi σ = some (1, τ) ∧ Tk τ A T (bk A T (tke A T j)) ∧ Fz (pA σ 88 q (nv A T j)) τ) := by
  have k2 := hk.k (n := 2) (by decide)
  unfold f_X6_eats
  by_cases h1 : knd A T j = 2
  · rw [if_pos (show sI σ 75 18 = 2 from k2.mpr h1), hk.2.2.2 h1, m_inI (nmf A (wdt A T j) j 0) lo hi lo.toInt64 hi.toInt64 rfl rfl, bd_s, if10]
    constructor
    · intro hn
      rw [if_neg (show ¬ (lo ≤ nmf A (wdt A T j) j 0 ∧ nmf A (wdt A T j) j 0 ≤ hi) from fun e => hn ⟨h1, e⟩)]
    · intro ho
      have hj := knd_lt (A := A) (T := T) (i := j) (by omega)
      obtain ⟨τ, e, t1, t2⟩ := m_goOn (σ := pA σ 88 q (nv A T j)) (h.mz (Mz.a (Or.inr rfl))) hj (hk.same fun b => rfl)
      refine ⟨τ, ?_, t1, t2⟩
      rw [if_pos (show lo ≤ nmf A (wdt A T j) j 0 ∧ nmf A (wdt A T j) j 0 ≤ hi from ho.2), nI_c (by omega), gd_ok (by
        rintro (q' | q')
        · exact nI_pos (by omega) q'
        · omega)]
      have e' : f_X6_goOn (pA σ 88 q (sI σ 75 19)) = some τ := by rw [hk.2.2.2 h1]; exact e
      rw [e', bv_s]
  · rw [if_neg (show ¬ sI σ 75 18 = 2 from fun e => h1 (k2.mp e))]
    exact ⟨fun _ => rfl, fun ho => absurd ho.1 h1⟩
/-! the class's steps -/
theorem e_end {σ : St} {A : Nat → Int32} {T t n : Nat} {s : Int32} (h : Cl σ A T) : f_X3_faultInto_11 (n + 1) s (nI T) (nI t) σ = f_X3_faultInto_65 s σ := by
  rw [f_X3_faultInto_11, h.2.1]
  have hT := h.1
  split
  · rfl
  · rw [if_pos (nI_le (Nat.le_refl _) (by omega))]
theorem e_step {σ : St} {A : Nat → Int32} {T i t n : Nat} {s : Int32} (h : Cl σ A T) (hi : i < T) (ht : t ≤ i) : f_X3_faultInto_11 (n + 1) s (nI i) (nI t) σ = bd (f_X3_taken s (nI i) (nI (tke A T i)) σ) (fun r40 σ40 => (if r40 = 8 then some (nI i, σ40) else bd (f_X3_behindBlanks (nI (tke A T i)) σ40) (fun r55 σ55 => f_X3_faultInto_11 n r40 r55 (nI (t + 1)) σ55))) := by
  have hT := h.1
  rw [f_X3_faultInto_11, h.2.1, if_neg (show ¬ (150 : Int32) ≤ nI t from nI_ge (b := 150) (by omega) (by decide)), if_neg (nI_ge hi (by omega)), e_tokenEnd h hi, bd_s]
  simp only [nI_1]
theorem e_ok {σ σ' : St} {A : Nat → Int32} {T i t n : Nat} {s s' : Int32} (h : Cl σ A T) (hi : i < T) (ht : t ≤ i) (h8 : ¬ s' = 8) (hz : Kz σ σ') (ht' : f_X3_taken s (nI i) (nI (tke A T i)) σ = some (s', σ')) : f_X3_faultInto_11 (n + 1) s (nI i) (nI t) σ = f_X3_faultInto_11 n s' (nI (bk A T (tke A T i))) (nI (t + 1)) σ' := by
  have hT := h.1
  have hb := tke_b (A := A) hi
  rw [e_step h hi ht, ht', bd_s, if_neg h8]
  unfold f_X3_behindBlanks
  rw [e_blanks (h.kz hz) FU _ (FU_lt (by omega)) hb.2, bd_s]
theorem e_bad {σ σ' : St} {A : Nat → Int32} {T i t n : Nat} {s : Int32} (h : Cl σ A T) (hi : i < T) (ht : t ≤ i) (ht' : f_X3_taken s (nI i) (nI (tke A T i)) σ = some (8, σ')) : f_X3_faultInto_11 (n + 1) s (nI i) (nI t) σ = some (nI i, σ') := by
  rw [e_step h hi ht, ht', bd_s, if_pos rfl]
theorem rng {A : Nat → Int32} {T i : Nat} {lo hi : Int32} (hlo : 0 ≤ lo) : (lo ≤ (if knd A T i = 2 then nmf A (wdt A T i) i 0 else -1) ∧ (if knd A T i = 2 then nmf A (wdt A T i) i 0 else -1) ≤ hi) ↔ okN A T i lo hi := by
  by_cases h : knd A T i = 2
  · rw [if_pos h]
    exact ⟨fun q => ⟨h, q⟩, fun q => q.2⟩
  · rw [if_neg h]
    exact ⟨fun q => absurd (Int32.le_trans hlo q.1) (by decide), fun q => absurd q.1 h⟩
