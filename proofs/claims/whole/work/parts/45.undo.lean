/-! what may be undone -/
theorem e_drop_loop {a : Nat} (ha : ln a = 8) (σ : St) (F : Nat → Int32) : ∀ (n j : Nat), 7 - j < n → j ≤ 7 → f_X2_dropFirst_2 a n (nI j) (sR σ a (fun m => if m < j then F (m + 1) else F m)) = some (sR σ a (fun m => if m < 7 then F (m + 1) else F m)) := by
  intro n
  induction n with
  | zero => intro j h; omega
  | succ n ih =>
    intro j hn hj
    rw [f_X2_dropFirst_2, ha]
    by_cases he : j = 7
    · subst he
      rw [if_pos (by decide)]
    · have k0 : ∀ {m : Nat}, m < 8 → ¬ (nI m < 0 ∨ 8 ≤ m) := by
        intro m hm
        rintro (q | q)
        · exact nI_pos (by omega) q
        · omega
      rw [if_neg (show ¬ (Int32.ofNat 8 - 1) ≤ nI j from nI_ge (b := 7) (by omega) (by decide)), nI_1, nI_c (by omega), nI_c (by omega), gd_ok (k0 (by omega)), gd_ok (k0 (by omega)), sR_pA, sR_at, if_neg (by omega)]
      have e : upd (fun m => if m < j then F (m + 1) else F m) j (F (j + 1)) = (fun m => if m < j + 1 then F (m + 1) else F m) := by
        funext m
        unfold upd
        try dsimp only
        by_cases h1 : m = j
        · rw [if_pos h1, if_pos (by omega), h1]
        · rw [if_neg h1]
          by_cases h2 : m < j
          · rw [if_pos h2, if_pos (by omega)]
          · rw [if_neg h2, if_neg (by omega)]
      rw [e]
      exact ih (j + 1) (by omega) (by omega)
theorem e_dropFirst {a : Nat} (ha : ln a = 8) (σ : St) : f_X2_dropFirst a σ = some (sR σ a (fun m => if m < 7 then sA σ a (m + 1) else sA σ a m)) := by
  have h := e_drop_loop ha σ (sA σ a) FU 0 (FU_lt (by omega)) (by omega)
  have e : (fun m => if m < 0 then sA σ a (m + 1) else sA σ a m) = sA σ a := by
    funext m
    rw [if_neg (Nat.not_lt_zero m)]
  rw [e, sR_self] at h
  exact h
def kp1 (u : Nat) (f : Nat → Int32) (n : Nat) : Int32 := if n = 5 then nI (u + 1) else if 42 + 10 * u ≤ n ∧ n < 50 + 10 * u then f (7 + 3 * (n - (42 + 10 * u))) else if n = 50 + 10 * u then f 2 else if n = 51 + 10 * u then f 3 else f n
theorem m_keep_66 (σ : St) (F : Nat → Int32) (u : Nat) (hu : u < 8) (h5 : F 5 = nI u) : ∀ (n i : Nat), 8 - i < n → i ≤ 8 → f_X6_keep_66 n (nI (42 + 10 * u)) (nI i) (sR σ 76 (fun m => if 42 + 10 * u ≤ m ∧ m < 42 + 10 * u + i then F (7 + 3 * (m - (42 + 10 * u))) else F m)) = some (sR σ 76 (kp1 u F)) := by
  intro n
  induction n with
  | zero => intro i h; omega
  | succ n ih =>
    intro i hn hi
    have k0 : ∀ {m : Nat}, m < 122 → ¬ (nI m < 0 ∨ 122 ≤ m) := by
      intro m hm
      rintro (q | q)
      · exact nI_pos (by omega) q
      · omega
    rw [f_X6_keep_66]
    by_cases he : i = 8
    · subst he
      have e8 : nI (42 + 10 * u) + 8 = nI (50 + 10 * u) := by
        rw [show (8 : Int32) = nI 8 from rfl, nI_add]; congr 1; omega
      have e9 : nI (42 + 10 * u) + 9 = nI (51 + 10 * u) := by
        rw [show (9 : Int32) = nI 9 from rfl, nI_add]; congr 1; omega
      rw [if_pos (by decide), e8, e9, nI_c (by omega), nI_c (by omega), gd_ok (k0 (by omega)), gd_ok (k0 (by omega))]
      simp only [sR_pA, sR_at]
      congr 2
      funext m
      unfold upd kp1
      try dsimp only
      by_cases h1 : m = 5
      · rw [if_pos h1, if_pos h1, if_neg (by omega), if_neg (by omega), if_neg (by omega), h5, nI_1]
      · rw [if_neg h1, if_neg h1]
        by_cases h2 : m = 51 + 10 * u
        · rw [if_pos h2, if_neg (by omega), if_neg (by omega), if_neg (by omega), if_neg (by omega), if_pos h2]
        · rw [if_neg h2]
          by_cases h3 : m = 50 + 10 * u
          · rw [if_pos h3, if_neg (by omega), if_neg (by omega), if_pos h3]
          · rw [if_neg h3]
            by_cases h4 : 42 + 10 * u ≤ m ∧ m < 42 + 10 * u + 8
            · rw [if_pos h4, if_pos (by omega)]
            · rw [if_neg h4, if_neg (by omega), if_neg h3, if_neg h2]
    · rw [if_neg (show ¬ (8 : Int32) ≤ nI i from nI_ge (b := 8) (by omega) (by decide)), show (1 : Int32) = nI 1 from rfl, m_get (by omega), bd_s, nI_add, nI_c (by omega), gd_ok (k0 (by omega)), sR_pA, sR_at, if_neg (by omega), show nI i + nI 1 = nI (i + 1) from nI_1 i]
      have e : upd (fun m => if 42 + 10 * u ≤ m ∧ m < 42 + 10 * u + i then F (7 + 3 * (m - (42 + 10 * u))) else F m) (42 + 10 * u + i) (F (6 + 3 * i + 1)) = (fun m => if 42 + 10 * u ≤ m ∧ m < 42 + 10 * u + (i + 1) then F (7 + 3 * (m - (42 + 10 * u))) else F m) := by
        funext m
        unfold upd
        try dsimp only
        by_cases h1 : m = 42 + 10 * u + i
        · rw [if_pos h1, if_pos (by omega)]
          congr 1; omega
        · rw [if_neg h1]
          by_cases h2 : 42 + 10 * u ≤ m ∧ m < 42 + 10 * u + i
          · rw [if_pos h2, if_pos (by omega)]
          · rw [if_neg h2, if_neg (by omega)]
      rw [e]
      exact ih (i + 1) (by omega) (by omega)
theorem m_keep_51 (σ : St) (F : Nat → Int32) (u : Nat) (hu : u < 8) (h5 : F 5 = nI u) : f_X6_keep_51 (sR σ 76 F) = some (sR σ 76 (kp1 u F)) := by
  have h := m_keep_66 σ F u hu h5 FU 0 (FU_lt (by omega)) (by omega)
  have e : (fun m => if 42 + 10 * u ≤ m ∧ m < 42 + 10 * u + 0 then F (7 + 3 * (m - (42 + 10 * u))) else F m) = F := by
    funext m
    rw [if_neg (by omega)]
  rw [e] at h
  unfold f_X6_keep_51
  rw [sR_at, h5, show (42 : Int32) + 10 * nI u = nI (42 + 10 * u) by rw [show (42 : Int32) = nI 42 from rfl, show (10 : Int32) = nI 10 from rfl, pk_mul, nI_add]]
  exact h
def kp0 (F : Nat → Int32) (m : Nat) : Int32 := if m = 5 then 7 else if 42 ≤ m ∧ m < 112 then F (m + 10) else F m
theorem m_keep_13 (σ : St) (F : Nat → Int32) : ∀ (n j : Nat), 70 - j < n → j ≤ 70 → f_X6_keep_13 n (nI j) (sR σ 76 (fun m => if 42 ≤ m ∧ m < 42 + j then F (m + 10) else F m)) = some (sR σ 76 (kp1 7 (kp0 F))) := by
  intro n
  induction n with
  | zero => intro i h; omega
  | succ n ih =>
    intro j hn hj
    have k0 : ∀ {m : Nat}, m < 122 → ¬ (nI m < 0 ∨ 122 ≤ m) := by
      intro m hm
      rintro (q | q)
      · exact nI_pos (by omega) q
      · omega
    rw [f_X6_keep_13]
    by_cases he : j = 70
    · subst he
      rw [if_pos (by decide), sR_pA]
      have e : upd (fun m => if 42 ≤ m ∧ m < 42 + 70 then F (m + 10) else F m) 5 7 = kp0 F := by
        funext m
        unfold upd kp0
        rfl
      rw [e]
      exact m_keep_51 σ (kp0 F) 7 (by decide) rfl
    · rw [if_neg (show ¬ (70 : Int32) ≤ nI j from nI_ge (b := 70) (by omega) (by decide)), show (52 : Int32) + nI j = nI (52 + j) by rw [show (52 : Int32) = nI 52 from rfl, nI_add], show (42 : Int32) + nI j = nI (42 + j) by rw [show (42 : Int32) = nI 42 from rfl, nI_add], nI_c (by omega), nI_c (by omega), gd_ok (k0 (by omega)), gd_ok (k0 (by omega)), sR_pA, sR_at, if_neg (by omega), nI_1]
      have e : upd (fun m => if 42 ≤ m ∧ m < 42 + j then F (m + 10) else F m) (42 + j) (F (52 + j)) = (fun m => if 42 ≤ m ∧ m < 42 + (j + 1) then F (m + 10) else F m) := by
        funext m
        unfold upd
        try dsimp only
        by_cases h1 : m = 42 + j
        · rw [if_pos h1, if_pos (by omega)]
          congr 1; omega
        · rw [if_neg h1]
          by_cases h2 : 42 ≤ m ∧ m < 42 + j
          · rw [if_pos h2, if_pos (by omega)]
          · rw [if_neg h2, if_neg (by omega)]
      rw [e]
      exact ih (j + 1) (by omega) (by omega)
theorem m_keep {σ : St} {un : Nat} (hun : un ≤ 8) (h5 : sA σ 76 5 = nI un) : f_X6_keep σ = some (sR σ 76 (if un = 8 then kp1 7 (kp0 (sA σ 76)) else kp1 un (sA σ 76))) := by
  unfold f_X6_keep
  rw [h5]
  by_cases he : un = 8
  · subst he
    rw [if_pos (by decide), if_pos rfl]
    have h := m_keep_13 σ (sA σ 76) FU 0 (FU_lt (by omega)) (by omega)
    have e : (fun m => if 42 ≤ m ∧ m < 42 + 0 then sA σ 76 (m + 10) else sA σ 76 m) = sA σ 76 := by
      funext m
      rw [if_neg (by omega)]
    rw [e, sR_self] at h
    exact h
  · rw [if_neg (show ¬ nI un = 8 from fun e => he ((nI_eq (b := 8) (by omega) (by decide)).mp e)), if_neg he]
    have h := m_keep_51 σ (sA σ 76) un (by omega) h5
    rw [sR_self] at h
    exact h
theorem FRx.push {L rd un : Nat} {g g' : Nat → Int32} {r r' : Nat → Nat → Int32} {a : Nat → Int32} (h : FRx L rd un g r a) (hun : un < 8) (hg : ∀ j, j ≠ 6 → g' j = g j) (g6 : g' 6 = nI (un + 1)) (hr' : ∀ q i, q < 4 → r' q i = r q i) (r4 : ∀ i, i < 8 → r' 4 i = if i = un then g 2 else r 4 i) (r5 : ∀ i, i < 8 → r' 5 i = if i = un then g 3 else r 5 i) (r6 : ∀ i, i < 8 → r' 6 i = if i = un then g 4 else r 6 i) : FRx L rd (un + 1) g' r' (kp1 un a) := by
  obtain ⟨hL8, hrd6, -, q0, b0, b1, b2, b3, q5, b4, q6, b5, hk, ⟨B, hB, hB2, hB3⟩, hr, hu⟩ := h
  have ho : ∀ n, n ≠ 5 → (n < 42 + 10 * un ∨ 51 + 10 * un < n) → kp1 un a n = a n := by
    intro n h1 h2
    unfold kp1
    rw [if_neg h1, if_neg (by omega), if_neg (by omega), if_neg (by omega)]
  refine ⟨hL8, hrd6, by omega, by rw [hg 0 (by decide)]; exact q0, by rw [ho 0 (by decide) (by omega)]; exact b0, by rw [ho 1 (by decide) (by omega), hg 1 (by decide)]; exact b1, by rw [ho 2 (by decide) (by omega), hg 3 (by decide)]; exact b2, by rw [ho 3 (by decide) (by omega), hg 4 (by decide)]; exact b3, by rw [hg 5 (by decide)]; exact q5, by rw [ho 4 (by decide) (by omega)]; exact b4, g6, rfl, fun i hi => ?_, ⟨B, by rw [hg 2 (by decide)]; exact hB, hB2, fun i hi => ?_⟩, fun j hj => ?_, fun u hu' => ?_⟩
  · rw [ho _ (by omega) (by omega), ho _ (by omega) (by omega), hr' 0 i (by decide), hr' 1 i (by decide)]
    exact hk i hi
  · show kp1 un a (7 + 3 * i) = _
    rw [ho _ (by omega) (by omega)]
    exact hB3 i hi
  · rw [ho _ (by omega) (by omega), ho _ (by omega) (by omega), hr' 2 j (by decide), hr' 3 j (by decide)]
    exact hr j hj
  · rw [r4 u (by omega), r5 u (by omega), r6 u (by omega)]
    by_cases e : u = un
    · subst e
      rw [if_pos rfl, if_pos rfl, if_pos rfl]
      refine ⟨?_, ?_, B, hB, hB2, fun i hi => ?_⟩
      · unfold kp1
        rw [if_neg (by omega), if_neg (by omega), if_pos rfl]
        exact b2
      · unfold kp1
        rw [if_neg (by omega), if_neg (by omega), if_neg (by omega), if_pos rfl]
        exact b3
      · show kp1 u a (42 + 10 * u + i) = _
        unfold kp1
        rw [if_neg (by omega), if_pos (by omega), show 42 + 10 * u + i - (42 + 10 * u) = i by omega]
        exact hB3 i hi
    · rw [if_neg e, if_neg e, if_neg e, ho _ (by omega) (by omega), ho _ (by omega) (by omega)]
      obtain ⟨w1, w2, B', hB', hB2', hB3'⟩ := hu u (by omega)
      refine ⟨w1, w2, B', hB', hB2', fun i hi => ?_⟩
      show kp1 un a (42 + 10 * u + i) = _
      rw [ho _ (by omega) (by omega)]
      exact hB3' i hi
theorem FRx.drop {L rd : Nat} {g g' : Nat → Int32} {r r' : Nat → Nat → Int32} {a : Nat → Int32} (h : FRx L rd 8 g r a) (hg : ∀ j, j ≠ 6 → g' j = g j) (g6 : g' 6 = 7) (hr' : ∀ q i, q < 4 → r' q i = r q i) (hr4 : ∀ q i, 4 ≤ q → q < 7 → i < 7 → r' q i = r q (i + 1)) : FRx L rd 7 g' r' (kp0 a) := by
  obtain ⟨hL8, hrd6, -, q0, b0, b1, b2, b3, q5, b4, q6, b5, hk, ⟨B, hB, hB2, hB3⟩, hr, hu⟩ := h
  have ho : ∀ n, n ≠ 5 → n < 42 → kp0 a n = a n := by
    intro n h1 h2
    unfold kp0
    rw [if_neg h1, if_neg (by omega)]
  have hm : ∀ n, 42 ≤ n → n < 112 → kp0 a n = a (n + 10) := by
    intro n h1 h2
    unfold kp0
    rw [if_neg (by omega), if_pos ⟨h1, h2⟩]
  refine ⟨hL8, hrd6, by omega, by rw [hg 0 (by decide)]; exact q0, by rw [ho 0 (by decide) (by omega)]; exact b0, by rw [ho 1 (by decide) (by omega), hg 1 (by decide)]; exact b1, by rw [ho 2 (by decide) (by omega), hg 3 (by decide)]; exact b2, by rw [ho 3 (by decide) (by omega), hg 4 (by decide)]; exact b3, by rw [hg 5 (by decide)]; exact q5, by rw [ho 4 (by decide) (by omega)]; exact b4, g6, rfl, fun i hi => ?_, ⟨B, by rw [hg 2 (by decide)]; exact hB, hB2, fun i hi => ?_⟩, fun j hj => ?_, fun u hu' => ?_⟩
  · rw [ho _ (by omega) (by omega), ho _ (by omega) (by omega), hr' 0 i (by decide), hr' 1 i (by decide)]
    exact hk i hi
  · show kp0 a (7 + 3 * i) = _
    rw [ho _ (by omega) (by omega)]
    exact hB3 i hi
  · rw [ho _ (by omega) (by omega), ho _ (by omega) (by omega), hr' 2 j (by decide), hr' 3 j (by decide)]
    exact hr j hj
  · obtain ⟨w1, w2, B', hB', hB2', hB3'⟩ := hu (u + 1) (by omega)
    rw [hr4 5 u (by decide) (by decide) (by omega), hr4 6 u (by decide) (by decide) (by omega), hr4 4 u (by decide) (by decide) (by omega), hm _ (by omega) (by omega), hm _ (by omega) (by omega), show 50 + 10 * u + 10 = 50 + 10 * (u + 1) by omega, show 51 + 10 * u + 10 = 51 + 10 * (u + 1) by omega]
    refine ⟨w1, w2, B', hB', hB2', fun i hi => ?_⟩
    show kp0 a (42 + 10 * u + i) = _
    rw [hm _ (by omega) (by omega), show 42 + 10 * u + i + 10 = 42 + 10 * (u + 1) + i by omega]
    exact hB3' i hi
/-- how it stands, time and water are others; fewer may be undone, or as many -/
theorem FRx.set {L rd un un' : Nat} {g g' : Nat → Int32} {r r' : Nat → Nat → Int32} {a a' : Nat → Int32} {B' : Nat} (h : FRx L rd un g r a) (hun : un' ≤ un) (h0 : g' 0 = g 0) (h1 : g' 1 = g 1) (h5 : g' 5 = g 5) (h6 : g' 6 = nI un') (hr' : ∀ q i, q < 7 → r' q i = r q i) (a5 : a' 5 = nI un') (hB' : g' 2 = nI B') (hB2' : B' < 2 ^ L) (a7 : ∀ i, i < 8 → a' (7 + 3 * i) = nI (B' / 2 ^ i % 2)) (a2 : a' 2 = g' 3) (a3 : a' 3 = g' 4) (ho : ∀ n, n ≠ 2 → n ≠ 3 → n ≠ 5 → (∀ i, i < 8 → n ≠ 7 + 3 * i) → a' n = a n) : FRx L rd un' g' r' a' := by
  obtain ⟨hL8, hrd6, hun8, q0, b0, b1, b2, b3, q5, b4, q6, b5, hk, ⟨B, hB, hB2, hB3⟩, hr, hu⟩ := h
  refine ⟨hL8, hrd6, by omega, by rw [h0]; exact q0, by rw [ho 0 (by decide) (by decide) (by decide) (fun i hi => by omega)]; exact b0, by rw [ho 1 (by decide) (by decide) (by decide) (fun i hi => by omega), h1]; exact b1, a2, a3, by rw [h5]; exact q5, by rw [ho 4 (by decide) (by decide) (by decide) (fun i hi => by omega)]; exact b4, h6, a5, fun i hi => ?_, ⟨B', hB', hB2', a7⟩, fun j hj => ?_, fun u hu' => ?_⟩
  · rw [ho _ (by omega) (by omega) (by omega) (fun i hi => by omega), ho _ (by omega) (by omega) (by omega) (fun i hi => by omega), hr' 0 i (by decide), hr' 1 i (by decide)]
    exact hk i hi
  · rw [ho _ (by omega) (by omega) (by omega) (fun i hi => by omega), ho _ (by omega) (by omega) (by omega) (fun i hi => by omega), hr' 2 j (by decide), hr' 3 j (by decide)]
    exact hr j hj
  · obtain ⟨w1, w2, B'', hB'', hB2'', hB3''⟩ := hu u (by omega)
    rw [ho _ (by omega) (by omega) (by omega) (fun i hi => by omega), ho _ (by omega) (by omega) (by omega) (fun i hi => by omega), hr' 5 u (by decide), hr' 6 u (by decide), hr' 4 u (by decide)]
    refine ⟨w1, w2, B'', hB'', hB2'', fun i hi => ?_⟩
    show a' (42 + 10 * u + i) = _
    rw [ho _ (by omega) (by omega) (by omega) (fun i hi => by omega)]
    exact hB3'' i hi
