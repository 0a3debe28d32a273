/-! reading: all of it -/
theorem m_begin87_loop (σ : St) (s : Int32) : ∀ (n j : Nat) (f : Nat → Int32), 42 - j < n → j ≤ 42 → f_X6_begin_87_2 n s (nI j) (sR σ 87 f) = some (sR σ 87 (fun m => if m = 1 then s else if j ≤ m ∧ m < 42 then 0 else f m)) := by
  intro n
  induction n with
  | zero => intro j f h; omega
  | succ n ih =>
    intro j f hn hj
    rw [f_X6_begin_87_2]
    by_cases he : j = 42
    · subst he
      rw [if_pos (by decide), sR_pA]
      congr 2
      funext m
      unfold upd
      by_cases h1 : m = 1
      · simp [h1]
      · simp [h1]; intro h2 h3; omega
    · rw [if_neg (show ¬ (42 : Int32) ≤ nI j from nI_ge (show j < 42 by omega) (by decide)), nI_c (by omega), gd_ok (by
        rintro (q | q)
        · exact nI_pos (by omega) q
        · omega), sR_pA, nI_1, ih (j + 1) _ (by omega) (by omega)]
      congr 2
      funext m
      unfold upd
      by_cases h1 : m = 1
      · simp [h1]
      · rw [if_neg h1, if_neg h1]
        by_cases h2 : m = j
        · rw [if_neg (by omega), if_pos h2, if_pos (by omega)]
        · rw [if_neg h2]
          by_cases h3 : j + 1 ≤ m ∧ m < 42
          · rw [if_pos h3, if_pos (by omega)]
          · rw [if_neg h3, if_neg (by omega)]
theorem m_begin87 (σ : St) (s : Int32) : f_X6_begin_87 s σ = some (sR σ 87 (fun m => if m = 1 then s else if m < 42 then 0 else sA σ 87 m)) := by
  have h := m_begin87_loop σ s FU 0 (sA σ 87) (FU_lt (by omega)) (by omega)
  rw [sR_self] at h
  show f_X6_begin_87_2 FU s (nI 0) σ = _
  rw [h]
  simp
theorem m_lay87 {σ : St} {L : Nat} (hL : sA σ 87 0 = nI L) (hL8 : L < 8) (kd s w : Int32) : f_X6_layLock_87 kd s w σ = some (sR σ 87 (fun n => if n = 0 then nI (L + 1) else if n = 6 + 3 * L then kd else if n = 7 + 3 * L then s else if n = 8 + 3 * L then w else sA σ 87 n)) := by
  unfold f_X6_layLock_87
  have e0 : (6 : Int32) + 3 * nI L + 0 = nI (6 + 3 * L) := by
    rw [show (6 : Int32) = nI 6 from rfl, show (3 : Int32) = nI 3 from rfl, show (0 : Int32) = nI 0 from rfl, pk_mul, nI_add, nI_add]; rfl
  have e1 : (6 : Int32) + 3 * nI L + 1 = nI (7 + 3 * L) := by
    rw [show (6 : Int32) = nI 6 from rfl, show (3 : Int32) = nI 3 from rfl, pk_mul, nI_add, nI_1]; congr 1; omega
  have e2 : (6 : Int32) + 3 * nI L + 2 = nI (8 + 3 * L) := by
    rw [show (6 : Int32) = nI 6 from rfl, show (3 : Int32) = nI 3 from rfl, show (2 : Int32) = nI 2 from rfl, pk_mul, nI_add, nI_add]; congr 1; omega
  rw [hL, e0, e1, e2, nI_c (by omega), nI_c (by omega), nI_c (by omega)]
  have k0 : ∀ {m : Nat}, m < 42 → ¬ (nI m < 0 ∨ 42 ≤ m) := by
    intro m hm
    rintro (q | q)
    · exact nI_pos (by omega) q
    · omega
  rw [gd_ok (k0 (by omega)), gd_ok (k0 (by omega)), gd_ok (k0 (by omega))]
  have e3 : sA (pA (pA (pA σ 87 (6 + 3 * L) kd) 87 (7 + 3 * L) s) 87 (8 + 3 * L) w) 87 0 = nI L := by
    rw [sA_pA, if_neg (by omega), sA_pA, if_neg (by omega), sA_pA, if_neg (by omega), hL]
  rw [e3, nI_1]
  have e4 : pA (pA (pA (pA σ 87 (6 + 3 * L) kd) 87 (7 + 3 * L) s) 87 (8 + 3 * L) w) 87 0 (nI (L + 1)) = sR σ 87 (upd (upd (upd (upd (sA σ 87) (6 + 3 * L) kd) (7 + 3 * L) s) (8 + 3 * L) w) 0 (nI (L + 1))) := by
    rw [← sR_pA, ← sR_pA, ← sR_pA, ← sR_pA, sR_self]
  rw [e4]
  congr 2
  funext n
  unfold upd
  by_cases h0 : n = 0
  · rw [if_pos h0, if_pos h0]
  · rw [if_neg h0, if_neg h0]
    by_cases h1 : n = 6 + 3 * L
    · rw [if_neg (by omega), if_neg (by omega), if_pos h1, if_pos h1]
    · by_cases h2 : n = 7 + 3 * L
      · rw [if_neg (by omega), if_pos h2, if_neg h1, if_pos h2]
      · by_cases h3 : n = 8 + 3 * L
        · rw [if_pos h3, if_neg h1, if_neg h2, if_pos h3]
        · rw [if_neg h3, if_neg h2, if_neg h1, if_neg h1, if_neg h2, if_neg h3]
theorem m_read68_loop (σ : St) (x : Int32) : ∀ (n j : Nat), 42 - j < n → j ≤ 42 → f_X6_read_68 n x (nI j) (sR σ 76 (fun m => if m < j then sA σ 87 m else sA σ 76 m)) = some (x, sR σ 76 (fun m => if m < 42 then sA σ 87 m else sA σ 76 m)) := by
  intro n
  induction n with
  | zero => intro j h; omega
  | succ n ih =>
    intro j hn hj
    rw [f_X6_read_68]
    by_cases he : j = 42
    · subst he
      rw [if_pos (by decide)]
    · rw [if_neg (show ¬ (42 : Int32) ≤ nI j from nI_ge (b := 42) (by omega) (by decide)), nI_c (by omega), gd_ok (by
        rintro (q | q)
        · exact nI_pos (by omega) q
        · omega), gd_ok (by
        rintro (q | q)
        · exact nI_pos (by omega) q
        · omega), sR_pA, sR_o _ _ _ _ _ (by decide), nI_1]
      have e : upd (fun m => if m < j then sA σ 87 m else sA σ 76 m) j (sA σ 87 j) = (fun m => if m < j + 1 then sA σ 87 m else sA σ 76 m) := by
        funext m
        unfold upd
        try dsimp only
        by_cases h1 : m = j
        · rw [if_pos h1, if_pos (by omega), h1]
        · rw [if_neg h1]
          by_cases h2 : m < j
          · rw [if_pos h2, if_pos (by omega)]
          · rw [if_neg h2, if_neg (by omega)]
      rw [e]
      exact ih (j + 1) (by omega) (by omega)
theorem m_read68 (σ : St) (x : Int32) : f_X6_read_68 FU x 0 σ = some (x, sR σ 76 (fun m => if m < 42 then sA σ 87 m else sA σ 76 m)) := by
  have h := m_read68_loop σ x FU 0 (FU_lt (by omega)) (by omega)
  have e : (fun m => if m < 0 then sA σ 87 m else sA σ 76 m) = sA σ 76 := by
    funext m
    rw [if_neg (Nat.not_lt_zero m)]
  rw [e, sR_self] at h
  exact h
def R3 (σ : St) : Option (Int32 × St) := bd (f_X6_eats 2 1 20 σ) (fun r60 σ60 => (if r60 = 0 then some (0, σ60) else bv (f_X6_layLock_87 (sA σ60 88 0) (sA σ60 88 1) (sA σ60 88 2) σ60) (fun σ90 => some (1, σ90))))
def R2 (σ : St) : Option (Int32 × St) := bd (f_X6_eats 1 0 1 σ) (fun r49 σ49 => (if r49 = 0 then some (0, σ49) else R3 σ49))
def R1 (σ : St) : Option (Int32 × St) := bd (f_X6_eats 0 0 5 σ) (fun r39 σ39 => (if r39 = 0 then some (0, σ39) else R2 σ39))
theorem m_r0 {ρ : St} {A : Nat → Int32} {T i c : Nat} (h : Ml ρ A T) (hk : Tk ρ A T i) (hc : sA ρ 87 0 = nI c) (h8 : c ≤ 8) : (¬ (isW A T i 4 cw1 ∧ c < 8) → f_X6_readsLock ρ = some (0, ρ)) ∧ (isW A T i 4 cw1 ∧ c < 8 → ∃ ρ1, f_X6_readsLock ρ = R1 ρ1 ∧ Tk ρ1 A T (nx A T i) ∧ Fz ρ ρ1) := by
  have e : f_X6_isCalled 4 108 111 99 107 0 0 ρ = some (if isW A T i 4 cw1 then 1 else 0, ρ) := m_called (c := cw1) (len := 4) h hk (by decide)
  unfold f_X6_readsLock
  rw [e, bd_s, if10, hc]
  by_cases h1 : isW A T i 4 cw1
  · rw [if_pos h1]
    by_cases h2 : c < 8
    · refine ⟨fun q => absurd ⟨h1, h2⟩ q, fun _ => ?_⟩
      obtain ⟨τ, g1, g2, g3⟩ := m_goOn h (knd_lt (by rw [h1.1]; decide)) hk
      refine ⟨τ, ?_, g2, g3⟩
      rw [if_neg (show ¬ nI c = 8 from fun e => by
        have := (nI_eq (b := 8) (by omega) (by decide)).mp e
        omega), g1, bv_s]
      rfl
    · refine ⟨fun _ => ?_, fun q => absurd q.2 h2⟩
      rw [if_pos (show nI c = 8 by rw [show c = 8 by omega]; rfl)]
  · rw [if_neg h1]
    exact ⟨fun _ => rfl, fun q => absurd q.1 h1⟩
theorem m_r1 {ρ : St} {A : Nat → Int32} {T i : Nat} (h : Ml ρ A T) (hk : Tk ρ A T i) : (¬ okN A T i 0 5 → R1 ρ = some (0, ρ)) ∧ (okN A T i 0 5 → ∃ ρ1, R1 ρ = R2 ρ1 ∧ Tk ρ1 A T (nx A T i) ∧ Fz (pA ρ 88 0 (nv A T i)) ρ1) := by
  have e := m_eats (q := 0) (lo := 0) (hi := 5) h hk (by decide)
  unfold R1
  refine ⟨fun hn => ?_, fun ho => ?_⟩
  · rw [show f_X6_eats 0 0 5 ρ = some (0, ρ) from e.1 hn, bd_s, if_pos rfl]
  · obtain ⟨τ, g1, g2, g3⟩ := e.2 ho
    refine ⟨τ, ?_, g2, g3⟩
    rw [show f_X6_eats 0 0 5 ρ = some (1, τ) from g1, bd_s, if_neg (by decide)]
theorem m_r2 {ρ : St} {A : Nat → Int32} {T i : Nat} (h : Ml ρ A T) (hk : Tk ρ A T i) : (¬ okN A T i 0 1 → R2 ρ = some (0, ρ)) ∧ (okN A T i 0 1 → ∃ ρ1, R2 ρ = R3 ρ1 ∧ Tk ρ1 A T (nx A T i) ∧ Fz (pA ρ 88 1 (nv A T i)) ρ1) := by
  have e := m_eats (q := 1) (lo := 0) (hi := 1) h hk (by decide)
  unfold R2
  refine ⟨fun hn => ?_, fun ho => ?_⟩
  · rw [show f_X6_eats 1 0 1 ρ = some (0, ρ) from e.1 hn, bd_s, if_pos rfl]
  · obtain ⟨τ, g1, g2, g3⟩ := e.2 ho
    refine ⟨τ, ?_, g2, g3⟩
    rw [show f_X6_eats 1 0 1 ρ = some (1, τ) from g1, bd_s, if_neg (by decide)]
theorem m_r3 {ρ : St} {A : Nat → Int32} {T i : Nat} (h : Ml ρ A T) (hk : Tk ρ A T i) : (¬ okN A T i 1 20 → R3 ρ = some (0, ρ)) ∧ (okN A T i 1 20 → ∃ ρ1, R3 ρ = bv (f_X6_layLock_87 (sA ρ1 88 0) (sA ρ1 88 1) (sA ρ1 88 2) ρ1) (fun σ90 => some (1, σ90)) ∧ Tk ρ1 A T (nx A T i) ∧ Fz (pA ρ 88 2 (nv A T i)) ρ1) := by
  have e := m_eats (q := 2) (lo := 1) (hi := 20) h hk (by decide)
  unfold R3
  refine ⟨fun hn => ?_, fun ho => ?_⟩
  · rw [show f_X6_eats 2 1 20 ρ = some (0, ρ) from e.1 hn, bd_s, if_pos rfl]
  · obtain ⟨τ, g1, g2, g3⟩ := e.2 ho
    refine ⟨τ, ?_, g2, g3⟩
    rw [show f_X6_eats 2 1 20 ρ = some (1, τ) from g1, bd_s, if_neg (by decide)]
theorem fz_a {ρ τ : St} {q : Nat} {v : Int32} (h : Fz (pA ρ 88 q v) τ) : Mz ρ τ := (Mz.a (Or.inr rfl)).tr h.Mz
/-- what the two have when the reading ends -/
def RS (σ' ρ : St) (r r' : Int32) (ρ' : St) : Prop := (r = -1 ∧ r' = 1 + sI σ' 46 0 ∧ ∃ ρ1 c', Mz ρ ρ1 ∧ ρ' = sR ρ1 76 (fun m => if m < 42 then sA ρ1 87 m else sA ρ1 76 m) ∧ FRx c' 0 0 (g6 σ') (r6 σ') (sA ρ1 87)) ∨ (¬ r = -1 ∧ r' = -10 - r ∧ Mz ρ ρ')
theorem RS.tr {σ' ρ0 ρ ρ' : St} {r r' : Int32} (hz : Mz ρ0 ρ) (h : RS σ' ρ r r' ρ') : RS σ' ρ0 r r' ρ' := by
  rcases h with ⟨h1, h2, ρ1, c', h3, h4, h5⟩ | ⟨h1, h2, h3⟩
  · exact Or.inl ⟨h1, h2, ρ1, c', hz.tr h3, h4, h5⟩
  · exact Or.inr ⟨h1, h2, hz.tr h3⟩
theorem m_flt {σ' ρ ρ' : St} {A : Nat → Int32} {T i f m : Nat} {x : Int32} (hk : Tk ρ A T i) (hi : 0 < knd A T i) (hf : f ≤ 150) (e : f_X6_readsLock ρ = some (0, ρ')) (hz : Mz ρ ρ') (h16 : sI ρ' 75 16 = nI f) : ∃ r' ρ', f_X6_read_26 (m + 1) x ρ = some (r', ρ') ∧ RS σ' ρ (nI f) r' ρ' := by
  refine ⟨-10 - nI f, ρ', ?_, Or.inr ⟨f_bad hf, rfl, hz⟩⟩
  rw [f_X6_read_26, if_neg (show ¬ sI ρ 75 18 = 0 from fun q => by
    have := (hk.k (n := 0) (by decide)).mp q
    omega), e, bd_s, if_pos rfl]
  unfold f_X6_read_48
  rw [h16]
