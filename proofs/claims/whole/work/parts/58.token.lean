/-! tokens of the text A of length T -/
def spn (P : Int32 → Prop) [DecidablePred P] (A : Nat → Int32) : Nat → Nat → Nat
  | 0, i => i
  | n + 1, i => if P (A i) then spn P A n (i + 1) else i
abbrev Pl (x : Int32) : Prop := 97 ≤ x ∧ x ≤ 122
abbrev Pf (x : Int32) : Prop := 48 ≤ x ∧ x ≤ 57
abbrev Pb (x : Int32) : Prop := x = 32
theorem spn_b {P : Int32 → Prop} [DecidablePred P] {A : Nat → Int32} : ∀ (n i : Nat), i ≤ spn P A n i ∧ spn P A n i ≤ i + n := by
  intro n
  induction n with
  | zero => intro i; exact ⟨Nat.le_refl _, Nat.le_refl _⟩
  | succ n ih =>
    intro i
    rw [spn]
    have := ih (i + 1)
    by_cases h : P (A i)
    · rw [if_pos h]; omega
    · rw [if_neg h]; omega
def bk (A : Nat → Int32) (T i : Nat) : Nat := spn Pb A (T - i) i
def tke (A : Nat → Int32) (T i : Nat) : Nat := if Pl (A i) then spn Pl A (T - (i + 1)) (i + 1) else if Pf (A i) then spn Pf A (T - (i + 1)) (i + 1) else i + 1
theorem bk_b {A : Nat → Int32} {T i : Nat} (h : i ≤ T) : i ≤ bk A T i ∧ bk A T i ≤ T := by
  have := spn_b (P := Pb) (A := A) (T - i) i
  unfold bk
  omega
theorem tke_b {A : Nat → Int32} {T i : Nat} (h : i < T) : i < tke A T i ∧ tke A T i ≤ T := by
  unfold tke
  have h1 := spn_b (P := Pl) (A := A) (T - (i + 1)) (i + 1)
  have h2 := spn_b (P := Pf) (A := A) (T - (i + 1)) (i + 1)
  split
  · omega
  · split <;> omega
def knd (A : Nat → Int32) (T i : Nat) : Nat := if T ≤ i then 0 else if Pl (A i) then 1 else if Pf (A i) then (if tke A T i - i ≤ 2 then 2 else 4) else if A i = 59 then 3 else 4
def wdt (A : Nat → Int32) (T i : Nat) : Nat := if T ≤ i then 0 else tke A T i - i
def nmf (A : Nat → Int32) : Nat → Nat → Int32 → Int32
  | 0, _, v => v
  | n + 1, i, v => nmf A n (i + 1) (10 * v + A i - 48)
/-! the class's side: Cl σ A T -/
def Cl (σ : St) (A : Nat → Int32) (T : Nat) : Prop := T ≤ 150 ∧ sI σ 72 0 = nI T ∧ ∀ i, i < T → sA σ 74 i = A i
theorem e_letter {σ : St} {A : Nat → Int32} {T i : Nat} (h : Cl σ A T) (hi : i < T) : f_X3_isLetter (nI i) σ = some (if Pl (A i) then 1 else 0, σ) := by
  unfold f_X3_isLetter
  rw [e_get (a := 74) (show i < 150 by have := h.1; omega), bd_s, e_within, bd_s, h.2.2 i hi, gb10]
theorem e_figure {σ : St} {A : Nat → Int32} {T i : Nat} (h : Cl σ A T) (hi : i < T) : f_X3_isFigure (nI i) σ = some (if Pf (A i) then 1 else 0, σ) := by
  unfold f_X3_isFigure
  rw [e_get (a := 74) (show i < 150 by have := h.1; omega), bd_s, e_within, bd_s, h.2.2 i hi, gb10]
theorem e_blanks {σ : St} {A : Nat → Int32} {T : Nat} (h : Cl σ A T) : ∀ (n i : Nat), T - i < n → i ≤ T → f_X3_behindBlanks_2 n (nI i) σ = some (nI (bk A T i), σ) := by
  have hT := h.1
  intro n
  induction n with
  | zero => intro i h; omega
  | succ n ih =>
    intro i hn hi
    rw [f_X3_behindBlanks_2, h.2.1]
    by_cases he : i = T
    · subst he
      rw [if_pos (nI_le (Nat.le_refl _) (by omega))]
      unfold bk
      rw [Nat.sub_self]
      rfl
    · rw [if_neg (nI_ge (show i < T by omega) (by omega)), e_get (a := 74) (show i < 150 by omega), bd_s, h.2.2 i (by omega)]
      have e1 : bk A T i = if Pb (A i) then bk A T (i + 1) else i := by
        unfold bk
        obtain ⟨m, hm⟩ : ∃ m, T - i = m + 1 := ⟨T - i - 1, by omega⟩
        rw [hm, spn, show T - (i + 1) = m by omega]
      rw [e1]
      by_cases hb : A i = 32
      · rw [if_pos hb, if_pos hb, nI_1]
        exact ih (i + 1) (by omega) (by omega)
      · rw [if_neg hb, if_neg hb]
theorem e_te12 {σ : St} {A : Nat → Int32} {T : Nat} (h : Cl σ A T) : ∀ (n i : Nat), T - i < n → i ≤ T → f_X3_tokenEnd_12 n (nI i) σ = some (nI (spn Pl A (T - i) i), σ) := by
  have hT := h.1
  intro n
  induction n with
  | zero => intro i h; omega
  | succ n ih =>
    intro i hn hi
    rw [f_X3_tokenEnd_12, h.2.1]
    by_cases he : i = T
    · subst he
      rw [if_pos (nI_le (Nat.le_refl _) (by omega)), Nat.sub_self]
      rfl
    · rw [if_neg (nI_ge (show i < T by omega) (by omega)), e_letter h (by omega), bd_s, if10]
      obtain ⟨m, hm⟩ : ∃ m, T - i = m + 1 := ⟨T - i - 1, by omega⟩
      rw [hm, spn]
      by_cases hb : Pl (A i)
      · rw [if_pos hb, if_pos hb, nI_1, ih (i + 1) (by omega) (by omega), show T - (i + 1) = m by omega]
      · rw [if_neg hb, if_neg hb]
theorem e_te42 {σ : St} {A : Nat → Int32} {T : Nat} (h : Cl σ A T) : ∀ (n i : Nat), T - i < n → i ≤ T → f_X3_tokenEnd_42 n (nI i) σ = some (nI (spn Pf A (T - i) i), σ) := by
  have hT := h.1
  intro n
  induction n with
  | zero => intro i h; omega
  | succ n ih =>
    intro i hn hi
    rw [f_X3_tokenEnd_42, h.2.1]
    by_cases he : i = T
    · subst he
      rw [if_pos (nI_le (Nat.le_refl _) (by omega)), Nat.sub_self]
      rfl
    · rw [if_neg (nI_ge (show i < T by omega) (by omega)), e_figure h (by omega), bd_s, if10]
      obtain ⟨m, hm⟩ : ∃ m, T - i = m + 1 := ⟨T - i - 1, by omega⟩
      rw [hm, spn]
      by_cases hb : Pf (A i)
      · rw [if_pos hb, if_pos hb, nI_1, ih (i + 1) (by omega) (by omega), show T - (i + 1) = m by omega]
      · rw [if_neg hb, if_neg hb]
theorem e_tokenEnd {σ : St} {A : Nat → Int32} {T i : Nat} (h : Cl σ A T) (hi : i < T) : f_X3_tokenEnd (nI i) σ = some (nI (tke A T i), σ) := by
  have hT := h.1
  unfold f_X3_tokenEnd tke
  rw [e_letter h hi, bd_s, if10]
  by_cases h1 : Pl (A i)
  · rw [if_pos h1, if_pos h1, nI_1, e_te12 h FU (i + 1) (FU_lt (by omega)) (by omega)]
  · rw [if_neg h1, if_neg h1, e_figure h hi, bd_s, if10]
    by_cases h2 : Pf (A i)
    · rw [if_pos h2, if_pos h2, nI_1, e_te42 h FU (i + 1) (FU_lt (by omega)) (by omega)]
    · rw [if_neg h2, if_neg h2, nI_1]
theorem e_nm22 {σ : St} {A : Nat → Int32} {T e : Nat} (h : Cl σ A T) (he : e ≤ T) : ∀ (n i : Nat) (v : Int32), e - i < n → i ≤ e → f_X3_numberAt_22 n (nI e) v (nI i) σ = some (nmf A (e - i) i v, σ) := by
  have hT := h.1
  intro n
  induction n with
  | zero => intro i v h; omega
  | succ n ih =>
    intro i v hn hi
    rw [f_X3_numberAt_22]
    by_cases hq : i = e
    · subst hq
      rw [if_pos (nI_le (Nat.le_refl _) (by omega)), Nat.sub_self]
      rfl
    · rw [if_neg (nI_ge (show i < e by omega) (by omega)), e_get (a := 74) (show i < 150 by omega), bd_s, h.2.2 i (by omega), nI_1, ih (i + 1) _ (by omega) (by omega)]
      obtain ⟨m, hm⟩ : ∃ m, e - i = m + 1 := ⟨e - i - 1, by omega⟩
      rw [hm, nmf, show e - (i + 1) = m by omega]
theorem e_number {σ : St} {A : Nat → Int32} {T i : Nat} (h : Cl σ A T) (hi : i < T) : f_X3_numberAt (nI i) (nI (tke A T i)) σ = some (if knd A T i = 2 then nmf A (wdt A T i) i 0 else -1, σ) := by
  have hT := h.1
  have hb := tke_b (A := A) hi
  unfold f_X3_numberAt knd wdt
  rw [e_figure h hi, bd_s, if10, if_neg (show ¬ T ≤ i by omega), if_neg (show ¬ T ≤ i by omega), pk_sub (by omega)]
  by_cases h1 : Pl (A i)
  · have h2 : ¬ Pf (A i) := fun q => by
      have := Int32.le_trans h1.1 q.2
      exact absurd this (by decide)
    rw [if_pos h1, if_neg h2, if_neg (by decide)]
  · rw [if_neg h1]
    by_cases h2 : Pf (A i)
    · rw [if_pos h2, if_pos h2]
      by_cases h3 : tke A T i - i ≤ 2
      · rw [if_pos h3, if_pos rfl, if_pos (show nI (tke A T i - i) ≤ 2 from nI_le (b := 2) h3 (by decide)), e_nm22 h hb.2 FU i 0 (FU_lt (by omega)) (by omega)]
      · rw [if_neg h3, if_neg (show ¬ nI (tke A T i - i) ≤ 2 from nI_ge (a := 2) (by omega) (by omega)), if_neg (by decide)]
    · rw [if_neg h2, if_neg h2]
      by_cases h4 : A i = 59
      · rw [if_pos h4, if_neg (by decide)]
      · rw [if_neg h4, if_neg (by decide)]
/-! words -/
def wq (A c : Nat → Int32) (j : Nat) : Nat → Nat → Bool
  | 0, _ => true
  | n + 1, p => decide (A (j + p) = c p) && wq A c j n (p + 1)
def cw0 (p : Nat) : Int32 := if p = 0 then 102 else if p = 1 then 108 else if p = 2 then 105 else if p = 3 then 103 else if p = 4 then 104 else 116
def cw1 (p : Nat) : Int32 := if p = 0 then 108 else if p = 1 then 111 else if p = 2 then 99 else if p = 3 then 107 else if p = 4 then 0 else 0
theorem e_ch0 (σ : St) {p : Nat} (hp : p < 6) : f_J0_charAt_5068e 0 (nI p) σ = some (cw0 p, σ) := by
  rcases (show p = 0 ∨ p = 1 ∨ p = 2 ∨ p = 3 ∨ p = 4 ∨ p = 5 by omega) with rfl | rfl | rfl | rfl | rfl | rfl <;> rfl
theorem e_ch1 (σ : St) {p : Nat} (hp : p < 4) : f_J0_charAt_5068e 1 (nI p) σ = some (cw1 p, σ) := by
  rcases (show p = 0 ∨ p = 1 ∨ p = 2 ∨ p = 3 by omega) with rfl | rfl | rfl | rfl <;> rfl
theorem e_w0 {σ : St} {A : Nat → Int32} {T j : Nat} (h : Cl σ A T) (hj : j + 6 ≤ T) : ∀ (n p : Nat), 6 - p < n → p ≤ 6 → f_X3_isWord_0_15 n (nI j) (nI p) σ = some (if wq A cw0 j (6 - p) p = true then 1 else 0, σ) := by
  have hT := h.1
  intro n
  induction n with
  | zero => intro p h; omega
  | succ n ih =>
    intro p hn hp
    rw [f_X3_isWord_0_15, show f_J0_length_8abf5 0 σ = some (nI 6, σ) from rfl, bd_s]
    by_cases he : p = 6
    · subst he
      rw [if_pos (nI_le (Nat.le_refl _) (by decide)), Nat.sub_self, wq, if_pos rfl]
    · obtain ⟨m, hm⟩ : ∃ m, 6 - p = m + 1 := ⟨6 - p - 1, by omega⟩
      rw [if_neg (nI_ge (show p < 6 by omega) (by decide)), nI_add, e_get (a := 74) (show j + p < 150 by omega), bd_s, e_ch0 σ (by omega), bd_s, h.2.2 (j + p) (by omega), hm, wq]
      by_cases hc : A (j + p) = cw0 p
      · rw [if_pos hc, nI_1, ih (p + 1) (by omega) (by omega), show 6 - (p + 1) = m by omega, decide_eq_true hc, Bool.true_and]
      · rw [if_neg hc, decide_eq_false hc, Bool.false_and, if_neg (by decide)]
theorem e_w1 {σ : St} {A : Nat → Int32} {T j : Nat} (h : Cl σ A T) (hj : j + 4 ≤ T) : ∀ (n p : Nat), 4 - p < n → p ≤ 4 → f_X3_isWord_1_15 n (nI j) (nI p) σ = some (if wq A cw1 j (4 - p) p = true then 1 else 0, σ) := by
  have hT := h.1
  intro n
  induction n with
  | zero => intro p h; omega
  | succ n ih =>
    intro p hn hp
    rw [f_X3_isWord_1_15, show f_J0_length_8abf5 1 σ = some (nI 4, σ) from rfl, bd_s]
    by_cases he : p = 4
    · subst he
      rw [if_pos (nI_le (Nat.le_refl _) (by decide)), Nat.sub_self, wq, if_pos rfl]
    · obtain ⟨m, hm⟩ : ∃ m, 4 - p = m + 1 := ⟨4 - p - 1, by omega⟩
      rw [if_neg (nI_ge (show p < 4 by omega) (by decide)), nI_add, e_get (a := 74) (show j + p < 150 by omega), bd_s, e_ch1 σ (by omega), bd_s, h.2.2 (j + p) (by omega), hm, wq]
      by_cases hc : A (j + p) = cw1 p
      · rw [if_pos hc, nI_1, ih (p + 1) (by omega) (by omega), show 4 - (p + 1) = m by omega, decide_eq_true hc, Bool.true_and]
      · rw [if_neg hc, decide_eq_false hc, Bool.false_and, if_neg (by decide)]
/-- the token at i is the word -/
abbrev isW (A : Nat → Int32) (T i n : Nat) (c : Nat → Int32) : Prop := knd A T i = 1 ∧ wdt A T i = n ∧ wq A c i n 0 = true
theorem wq_first {A c : Nat → Int32} {i n : Nat} (h : wq A c i (n + 1) 0 = true) : A i = c 0 := by
  rw [wq, Bool.and_eq_true] at h
  exact of_decide_eq_true h.1
theorem isW_of {A : Nat → Int32} {T i n : Nat} {c : Nat → Int32} (hi : i < T) (hc : Pl (c 0)) : (tke A T i - i = n + 1 ∧ wq A c i (n + 1) 0 = true) ↔ isW A T i (n + 1) c := by
  unfold isW knd wdt
  rw [if_neg (show ¬ T ≤ i by omega), if_neg (show ¬ T ≤ i by omega)]
  constructor
  · intro h
    have := wq_first h.2
    rw [if_pos (show Pl (A i) by rw [this]; exact hc)]
    exact ⟨rfl, h.1, h.2⟩
  · intro h
    exact h.2
theorem e_word0 {σ : St} {A : Nat → Int32} {T i : Nat} (h : Cl σ A T) (hi : i < T) : f_X3_isWord_0 (nI i) (nI (tke A T i)) σ = some (if isW A T i 6 cw0 then 1 else 0, σ) := by
  have hT := h.1
  have hb := tke_b (A := A) hi
  have hw := isW_of (A := A) (T := T) (i := i) (n := 5) (c := cw0) hi (by decide)
  unfold f_X3_isWord_0
  rw [show f_J0_length_8abf5 0 σ = some (nI 6, σ) from rfl, bd_s, pk_sub (by omega)]
  by_cases h1 : tke A T i - i = 6
  · rw [h1, if_pos rfl]
    refine (e_w0 h (by omega) FU 0 (FU_lt (by decide)) (by decide)).trans ?_
    rw [Nat.sub_zero]
    by_cases h2 : wq A cw0 i 6 0 = true
    · rw [if_pos h2, if_pos (hw.mp ⟨h1, h2⟩)]
    · rw [if_neg h2, if_neg (fun q => h2 (hw.mpr q).2)]
  · rw [if_neg (fun e => h1 ((nI_eq (by omega) (by decide)).mp e)), if_neg (fun q => h1 (hw.mpr q).1)]
theorem e_word1 {σ : St} {A : Nat → Int32} {T i : Nat} (h : Cl σ A T) (hi : i < T) : f_X3_isWord_1 (nI i) (nI (tke A T i)) σ = some (if isW A T i 4 cw1 then 1 else 0, σ) := by
  have hT := h.1
  have hb := tke_b (A := A) hi
  have hw := isW_of (A := A) (T := T) (i := i) (n := 3) (c := cw1) hi (by decide)
  unfold f_X3_isWord_1
  rw [show f_J0_length_8abf5 1 σ = some (nI 4, σ) from rfl, bd_s, pk_sub (by omega)]
  by_cases h1 : tke A T i - i = 4
  · rw [h1, if_pos rfl]
    refine (e_w1 h (by omega) FU 0 (FU_lt (by decide)) (by decide)).trans ?_
    rw [Nat.sub_zero]
    by_cases h2 : wq A cw1 i 4 0 = true
    · rw [if_pos h2, if_pos (hw.mp ⟨h1, h2⟩)]
    · rw [if_neg h2, if_neg (fun q => h2 (hw.mpr q).2)]
  · rw [if_neg (fun e => h1 ((nI_eq (by omega) (by decide)).mp e)), if_neg (fun q => h1 (hw.mpr q).1)]
