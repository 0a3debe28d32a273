/-! WHAT THE TWO HAVE IN COMMON. A flight's numbers g, rows r against the reference's row a -/
def BT (L : Nat) (b : Int32) (s : Nat → Int32) : Prop := ∃ B, b = nI B ∧ B < 2 ^ L ∧ ∀ i, i < 8 → s i = nI (B / 2 ^ i % 2)
def FR (g : Nat → Int32) (r : Nat → Nat → Int32) (a : Nat → Int32) : Prop := ∃ L rd un : Nat, L ≤ 8 ∧ rd ≤ 6 ∧ un ≤ 8 ∧ g 0 = nI L ∧ a 0 = nI L ∧ a 1 = g 1 ∧ a 2 = g 3 ∧ a 3 = g 4 ∧ g 5 = nI rd ∧ a 4 = nI rd ∧ g 6 = nI un ∧ a 5 = nI un ∧
  (∀ i, i < L → a (6 + 3 * i) = r 0 i ∧ a (8 + 3 * i) = r 1 i ∧ ∃ m, m ≤ 20 ∧ r 1 i = nI m) ∧ BT L (g 2) (fun i => a (7 + 3 * i)) ∧
  (∀ j, j < rd → a (30 + 2 * j) = r 2 j ∧ a (31 + 2 * j) = r 3 j ∧ ∃ p, p < L ∧ r 2 j = nI p) ∧
  ∀ u, u < un → a (50 + 10 * u) = r 5 u ∧ a (51 + 10 * u) = r 6 u ∧ BT L (r 4 u) (fun i => a (42 + 10 * u + i))
def rl (q : Nat) : Nat := if q = 2 ∨ q = 3 then 6 else 8
theorem FR.congr {g g' : Nat → Int32} {r r' : Nat → Nat → Int32} {a a' : Nat → Int32} (h : FR g r a) (h1 : ∀ j, j < 7 → g' j = g j) (h2 : ∀ q i, q < 7 → i < rl q → r' q i = r q i) (h3 : ∀ n, n < 122 → a' n = a n) : FR g' r' a' := by
  obtain ⟨L, rd, un, hL, hrd, hun, g0, a0, a1, a2, a3, g5, a4, g6, a5, hk, ⟨B, hB, hB2, hB3⟩, hr, hu⟩ := h
  refine ⟨L, rd, un, hL, hrd, hun, by rw [h1 0 (by decide)]; exact g0, by rw [h3 0 (by decide)]; exact a0, by rw [h3 1 (by decide), h1 1 (by decide)]; exact a1, by rw [h3 2 (by decide), h1 3 (by decide)]; exact a2, by rw [h3 3 (by decide), h1 4 (by decide)]; exact a3, by rw [h1 5 (by decide)]; exact g5, by rw [h3 4 (by decide)]; exact a4, by rw [h1 6 (by decide)]; exact g6, by rw [h3 5 (by decide)]; exact a5, fun i hi => ?_, ⟨B, by rw [h1 2 (by decide)]; exact hB, hB2, fun i hi => ?_⟩, fun j hj => ?_, fun u hu' => ?_⟩
  · have e1 : i < 8 := by omega
    rw [h3 _ (by omega), h3 _ (by omega), h2 0 i (by decide) e1, h2 1 i (by decide) e1]
    exact hk i hi
  · show a' _ = _
    rw [h3 _ (by omega)]
    exact hB3 i hi
  · have e1 : j < 6 := by omega
    rw [h3 _ (by omega), h3 _ (by omega), h2 2 j (by decide) e1, h2 3 j (by decide) e1]
    exact hr j hj
  · have e1 : u < 8 := by omega
    obtain ⟨q1, q2, B', hB', hB2', hB3'⟩ := hu u hu'
    rw [h3 _ (by omega), h3 _ (by omega), h2 5 u (by decide) e1, h2 6 u (by decide) e1, h2 4 u (by decide) e1]
    refine ⟨q1, q2, B', hB', hB2', fun i hi => ?_⟩
    show a' _ = _
    rw [h3 _ (by omega)]
    exact hB3' i hi
/-- the flight in the cells from k on, and the reference's row A from o on -/
def FS (σ : St) (k A o : Nat) : Prop := FR (sI σ k) (fun q => sA σ (k + 2 + 2 * q)) (fun n => sA σ A (o + n))
def TX (σ : St) : Prop := ∃ T, T ≤ 150 ∧ sI σ 72 0 = nI T ∧ sI σ 75 15 = nI T ∧ ∀ i, i < T → sA σ 86 i = sA σ 74 i ∧ ∃ c, c < 128 ∧ sA σ 74 i = nI c
def JJ (σ : St) : Prop := FS σ 1 76 0 ∧ (sI σ 0 6 = 1 → FS σ 16 77 0) ∧ (sI σ 0 7 = 1 → FS σ 31 77 122) ∧ (sI σ 0 6 = 0 ∨ sI σ 0 6 = 1) ∧ (sI σ 0 7 = 0 ∨ sI σ 0 7 = 1) ∧ sA σ 78 0 = sI σ 0 6 ∧ sA σ 78 1 = sI σ 0 7 ∧ sL σ 75 4 = sL σ 0 8 ∧ sL σ 75 5 = sL σ 0 9 ∧ sA σ 79 0 = sI σ 0 10 ∧ sA σ 79 1 = sI σ 0 11 ∧ sA σ 79 2 = sI σ 0 12 ∧ TX σ
/-- what JJ speaks of is the same -/
def Rl (σ τ : St) : Prop := (∀ k, k ≤ 45 → (∀ b, sI τ k b = sI σ k b) ∧ (∀ b, sL τ k b = sL σ k b) ∧ ∀ b, sA τ k b = sA σ k b) ∧ sI τ 72 0 = sI σ 72 0 ∧ (∀ b, sA τ 74 b = sA σ 74 b) ∧ sI τ 75 15 = sI σ 75 15 ∧ (∀ b, sL τ 75 b = sL σ 75 b) ∧ (∀ k, 76 ≤ k → k ≤ 79 → ∀ b, sA τ k b = sA σ k b) ∧ ∀ b, sA τ 86 b = sA σ 86 b
theorem Rl.rf {σ : St} : Rl σ σ := ⟨fun _ _ => ⟨fun _ => rfl, fun _ => rfl, fun _ => rfl⟩, rfl, fun _ => rfl, rfl, fun _ => rfl, fun _ _ _ _ => rfl, fun _ => rfl⟩
theorem Rl.tr {σ τ υ : St} (h : Rl σ τ) (h2 : Rl τ υ) : Rl σ υ := ⟨fun k hk => ⟨fun b => ((h2.1 k hk).1 b).trans ((h.1 k hk).1 b), fun b => ((h2.1 k hk).2.1 b).trans ((h.1 k hk).2.1 b), fun b => ((h2.1 k hk).2.2 b).trans ((h.1 k hk).2.2 b)⟩, h2.2.1.trans h.2.1, fun b => (h2.2.2.1 b).trans (h.2.2.1 b), h2.2.2.2.1.trans h.2.2.2.1, fun b => (h2.2.2.2.2.1 b).trans (h.2.2.2.2.1 b), fun k h1 h3 b => (h2.2.2.2.2.2.1 k h1 h3 b).trans (h.2.2.2.2.2.1 k h1 h3 b), fun b => (h2.2.2.2.2.2.2 b).trans (h.2.2.2.2.2.2 b)⟩
theorem Ts.Rl {σ τ : St} (h : Ts σ τ) : Rl σ τ := ⟨fun k hk => ⟨fun b => h.1 k b (by omega), fun b => h.2.2.1 k b, fun b => h.2.2.2 k (by omega) b⟩, h.1 _ _ (by decide), fun b => h.2.2.2 _ (by decide) b, h.1 _ _ (by decide), fun b => h.2.2.1 _ b, fun k h1 h2 b => h.2.2.2 k (by omega) b, fun b => h.2.2.2 _ (by decide) b⟩
theorem Ms.Rl {σ τ : St} (h : Ms σ τ) : Rl σ τ := ⟨fun k hk => ⟨fun b => h.1 k b, fun b => h.2.1 k b, fun b => h.2.2 k (by omega) b⟩, h.1 _ _, fun b => h.2.2 _ (by decide) b, h.1 _ _, fun b => h.2.1 _ b, fun k h1 h2 b => h.2.2 k (by omega) b, fun b => h.2.2 _ (by decide) b⟩
theorem FS.moved {σ τ : St} {k A o : Nat} (h : FS σ k A o) (h1 : ∀ b, sI τ k b = sI σ k b) (h2 : ∀ q, q < 7 → ∀ b, sA τ (k + 2 + 2 * q) b = sA σ (k + 2 + 2 * q) b) (h3 : ∀ b, sA τ A b = sA σ A b) : FS τ k A o := FR.congr h (fun j _ => h1 j) (fun q i hq _ => h2 q hq i) (fun n _ => h3 _)
theorem JJ.moved {σ τ : St} (h : JJ σ) (hR : Rl σ τ) : JJ τ := by
  obtain ⟨h1, h2, h3, h4, h5, h6, h7, h8, h9, h10, h11, h12, T, hT, t1, t2, t3⟩ := h
  obtain ⟨r1, r2, r3, r4, r5, r6, r7⟩ := hR
  have e0 : ∀ b, sI τ 0 b = sI σ 0 b := (r1 0 (by decide)).1
  refine ⟨h1.moved (r1 1 (by decide)).1 (fun q hq => (r1 _ (by omega)).2.2) (r6 76 (by decide) (by decide)), fun h => (h2 ((e0 6).symm.trans h)).moved (r1 16 (by decide)).1 (fun q hq => (r1 _ (by omega)).2.2) (r6 77 (by decide) (by decide)), fun h => (h3 ((e0 7).symm.trans h)).moved (r1 31 (by decide)).1 (fun q hq => (r1 _ (by omega)).2.2) (r6 77 (by decide) (by decide)), ?_, ?_, ?_, ?_, ?_, ?_, ?_, ?_, ?_, T, hT, r2.trans t1, r4.trans t2, fun i hi => ?_⟩
  · rw [e0]; exact h4
  · rw [e0]; exact h5
  · rw [e0, r6 78 (by decide) (by decide)]; exact h6
  · rw [e0, r6 78 (by decide) (by decide)]; exact h7
  · rw [r5, (r1 0 (by decide)).2.1]; exact h8
  · rw [r5, (r1 0 (by decide)).2.1]; exact h9
  · rw [e0, r6 79 (by decide) (by decide)]; exact h10
  · rw [e0, r6 79 (by decide) (by decide)]; exact h11
  · rw [e0, r6 79 (by decide) (by decide)]; exact h12
  · rw [r7, r3]; exact t3 i hi
/-- a call is answered alike -/
def EQI (f g : St → Option (Int32 × St)) (σ : St) : Prop := ∃ (r : Int32) (τ υ : St), f σ = some (r, τ) ∧ g τ = some (r, υ) ∧ JJ υ
def EQL (f g : St → Option (Int64 × St)) (σ : St) : Prop := ∃ (r : Int64) (τ υ : St), f σ = some (r, τ) ∧ g τ = some (r, υ) ∧ JJ υ
theorem JJ.bad {σ : St} (h : JJ σ) : JJ (pA (pI σ 0 10 (sI σ 0 10 + 1)) 79 0 (sA (pI σ 0 10 (sI σ 0 10 + 1)) 79 0 + 1)) := by
  obtain ⟨h1, h2, h3, h4, h5, h6, h7, h8, h9, h10, h11, h12, h13⟩ := h
  exact ⟨h1, h2, h3, h4, h5, h6, h7, h8, h9, by show sA σ 79 0 + 1 = sI σ 0 10 + 1; rw [h10], h11, h12, h13⟩
theorem JJ.no {σ : St} (h : JJ σ) : JJ (pA (pI σ 0 11 (sI σ 0 11 + 1)) 79 1 (sA (pI σ 0 11 (sI σ 0 11 + 1)) 79 1 + 1)) := by
  obtain ⟨h1, h2, h3, h4, h5, h6, h7, h8, h9, h10, h11, h12, h13⟩ := h
  exact ⟨h1, h2, h3, h4, h5, h6, h7, h8, h9, h10, by show sA σ 79 1 + 1 = sI σ 0 11 + 1; rw [h11], h12, h13⟩
theorem JJ.full {σ : St} (h : JJ σ) : JJ (pA (pI σ 0 12 (sI σ 0 12 + 1)) 79 2 (sA (pI σ 0 12 (sI σ 0 12 + 1)) 79 2 + 1)) := by
  obtain ⟨h1, h2, h3, h4, h5, h6, h7, h8, h9, h10, h11, h12, h13⟩ := h
  exact ⟨h1, h2, h3, h4, h5, h6, h7, h8, h9, h10, h11, by show sA σ 79 2 + 1 = sI σ 0 12 + 1; rw [h12], h13⟩
