/-! PURE FACTS. The functions of the small methods -/
theorem bd_s {α γ : Type} {a : α} {b : St} {f : α → St → Option γ} : bd (some (a, b)) f = f a b := rfl
theorem bv_s {γ : Type} {b : St} {f : St → Option γ} : bv (some b) f = f b := rfl
theorem gb_0 {γ : Type} {x : Option γ} : gb 0 x = x := rfl
theorem gb_1 {γ : Type} {x : Option γ} : gb 1 x = x := rfl
theorem ln_le (a : Nat) : ln a ≤ 244 := by
  rcases Nat.lt_or_ge a 89 with h | h
  · exact (show ∀ a, a < 89 → ln a ≤ 244 by decide) a h
  · unfold ln
    rw [List.getD_eq_getElem?_getD, List.getElem?_eq_none (show lnl.length ≤ a from h)]
    decide
theorem nI_c {n : Nat} (h : n < 2 ^ 31) : (nI n).toNatClampNeg = n := nI_clamp h
theorem e_get {a n : Nat} (h : n < ln a) (σ : St) : f_X2_get a (nI n) σ = some (sA σ a n, σ) := by
  have hl := ln_le a
  have h1 : ¬ nI n < 0 := nI_pos (by omega)
  have h2 : ¬ Int32.ofNat (ln a) ≤ nI n := nI_ge h (by omega)
  have h3 : (nI n).toNatClampNeg = n := nI_clamp (by omega)
  unfold f_X2_get
  rw [if_neg h1, if_neg h2, h3, gd_ok]
  rintro (h4 | h4)
  · exact h1 h4
  · omega
theorem e_put {a n : Nat} (h : n < ln a) (v : Int32) (σ : St) : f_X2_put a (nI n) v σ = some (pA σ a n v) := by
  have hl := ln_le a
  have h1 : ¬ nI n < 0 := nI_pos (by omega)
  have h2 : ¬ Int32.ofNat (ln a) ≤ nI n := nI_ge h (by omega)
  have h3 : (nI n).toNatClampNeg = n := nI_clamp (by omega)
  unfold f_X2_put
  rw [if_neg h1, if_neg h2, h3, gd_ok]
  rintro (h4 | h4)
  · exact h1 h4
  · omega
def rdy (k s : Int32) : Int32 := if k = 1 then (if 5 ≤ s then 4 else 8) else if k = 2 then 4 else if k = 3 then (if 5 ≤ s then 4 else 8) else if k = 4 then 6 else if k = 5 then 3 else 4
def psd (k s : Int32) : Int32 := if k = 1 then 8 else if k = 2 then 6 else if k = 3 then (if 5 ≤ s then 8 else 9) else if k = 4 then 9 else 6
def sty (k : Int32) : Int32 := if k = 2 then 30 else if k = 3 then 20 else if k = 5 then 60 else 0
theorem e_rdy (k s : Int32) (σ : St) : f_X1_readyMinutes k s σ = some (rdy k s, σ) := by
  unfold f_X1_readyMinutes f_X1_readyMinutes_36 rdy
  repeat' split
  all_goals rfl
theorem e_psd (k s : Int32) (σ : St) : f_X1_passedMinutes k s σ = some (psd k s, σ) := by
  unfold f_X1_passedMinutes psd
  repeat' split
  all_goals rfl
theorem e_sty (k : Int32) (σ : St) : f_X1_staysMinutes k σ = some (sty k, σ) := by
  unfold f_X1_staysMinutes sty
  repeat' split
  all_goals first | rfl | (rename_i h1 h2; subst h1; exact absurd h2 (by decide)) | (rename_i h1 h2 _; subst h1; exact absurd h2 (by decide)) | skip
theorem m_rdy (k s : Int32) (σ : St) : f_X6_readyIn k s σ = some (rdy k s, σ) := by
  unfold f_X6_readyIn f_X6_readyIn_36 rdy
  repeat' split
  all_goals rfl
theorem m_psd (k s : Int32) (σ : St) : f_X6_passedIn k s σ = some (psd k s, σ) := by
  unfold f_X6_passedIn psd
  repeat' split
  all_goals rfl
theorem m_sty (k : Int32) (σ : St) : f_X6_staysFor k σ = some (sty k, σ) := by
  unfold f_X6_staysFor sty
  repeat' split
  all_goals rfl
theorem e_within (x a b : Int32) (σ : St) : f_X5_within x a b σ = some (if a ≤ x ∧ x ≤ b then 1 else 0, σ) := by
  unfold f_X5_within
  by_cases h1 : x < a
  · rw [if_pos h1, if_neg (fun h => absurd h.1 (Int32.not_le.mpr h1))]
  · rw [if_neg h1]
    by_cases h2 : b < x
    · rw [if_pos h2, if_neg (fun h => absurd h.2 (Int32.not_le.mpr h2))]
    · rw [if_neg h2, if_pos ⟨Int32.not_lt.mp h1, Int32.not_lt.mp h2⟩]
theorem m_in (x a b : Int64) (σ : St) : f_X6_in x a b σ = some (if a ≤ x ∧ x ≤ b then 1 else 0, σ) := by
  have l1 : ∀ u v : Int64, lg_cmp u v < 0 ↔ u < v := by
    intro u v
    have := lg_cmp_ge u v
    rw [← Int32.not_le, this, Int64.not_le]
  have l2 : ∀ u v : Int64, 0 < lg_cmp u v ↔ v < u := by
    intro u v
    unfold lg_cmp
    by_cases h1 : u > v
    · rw [if_pos h1]; exact ⟨fun _ => h1, fun _ => by decide⟩
    · rw [if_neg h1]
      by_cases h2 : u = v
      · rw [if_pos h2]; exact ⟨fun h => absurd h (by decide), fun h => absurd h h1⟩
      · rw [if_neg h2]; exact ⟨fun h => absurd h (by decide), fun h => absurd h h1⟩
  unfold f_X6_in
  by_cases h1 : x < a
  · rw [if_pos ((l1 _ _).mpr h1), if_neg (fun h => absurd h.1 (Int64.not_le.mpr h1))]
  · rw [if_neg (fun h => h1 ((l1 _ _).mp h))]
    by_cases h2 : b < x
    · rw [if_pos ((l2 _ _).mpr h2), if_neg (fun h => absurd h.2 (Int64.not_le.mpr h2))]
    · rw [if_neg (fun h => h2 ((l2 _ _).mp h)), if_pos ⟨Int64.not_lt.mp h1, Int64.not_lt.mp h2⟩]
theorem l64 (x y : Int32) : x.toInt64 ≤ y.toInt64 ↔ x ≤ y := by
  rw [Int64.le_iff_toInt_le, Int32.le_iff_toInt_le, Int32.toInt_toInt64, Int32.toInt_toInt64]
theorem m_inI (x a b : Int32) (A B : Int64) (ha : A = a.toInt64) (hb : B = b.toInt64) (σ : St) : f_X6_in x.toInt64 A B σ = some (if a ≤ x ∧ x ≤ b then 1 else 0, σ) := by
  rw [m_in, ha, hb]
  simp only [l64]
/-- a bit of a row of eight -/
theorem bit_at : ∀ i, i < 8 → ∀ B, B < 256 → (nI B >>> (nI i &&& 31)) &&& 1 = nI (B / 2 ^ i % 2) := by decide +kernel
