/-! reading, token by token -/
abbrev nx (A : Nat → Int32) (T i : Nat) : Nat := bk A T (tke A T i)
theorem nx_b {A : Nat → Int32} {T i : Nat} (h : i < T) : i < nx A T i ∧ nx A T i ≤ T := by
  have h1 := tke_b (A := A) h
  have h2 := bk_b (A := A) h1.2
  unfold nx
  omega
abbrev g6 (σ : St) : Nat → Int32 := sI σ 46
abbrev r6 (σ : St) : Nat → Nat → Int32 := fun q => sA σ (46 + 2 + 2 * q)
theorem f_bad {f : Nat} (h : f ≤ 150) : ¬ nI f = -1 := fun e => nI_pos (n := f) (by omega) (by rw [e]; decide)
theorem e_comb {σ σ' : St} {A : Nat → Int32} {T i t n : Nat} {s s' : Int32} {ok : Prop} (h : Cl σ A T) (hi : i ≤ T) (ht : t ≤ i) (hs : ¬ s = 3) (hlt : ok → i < T) (hbad : i < T → ¬ ok → ∃ σ2, f_X3_taken s (nI i) (nI (tke A T i)) σ = some (8, σ2) ∧ Kz σ σ2) (hok : ok → f_X3_taken s (nI i) (nI (tke A T i)) σ = some (s', σ')) (h8 : ¬ s' = 8) (hz : Kz σ σ') : (¬ ok → ∃ σ2, f_X3_faultInto_11 (n + 1) s (nI i) (nI t) σ = some (nI i, σ2) ∧ Kz σ σ2) ∧ (ok → f_X3_faultInto_11 (n + 1) s (nI i) (nI t) σ = f_X3_faultInto_11 n s' (nI (nx A T i)) (nI (t + 1)) σ') := by
  constructor
  · intro hn
    by_cases he : i = T
    · subst he
      refine ⟨σ, ?_, Kz.rf⟩
      rw [e_end h]
      unfold f_X3_faultInto_65
      rw [if_neg hs, h.2.1]
    · obtain ⟨σ2, e, hk⟩ := hbad (by omega) hn
      exact ⟨σ2, e_bad h (by omega) ht e, hk⟩
  · intro ho
    exact e_ok h (hlt ho) ht h8 hz (hok ho)
theorem okN.lt {A : Nat → Int32} {T i : Nat} {lo hi : Int32} (h : okN A T i lo hi) : i < T := knd_lt (by rw [h.1]; decide)
def rst (v : Int32) (σ : St) : St := pI (pI (pI (pI (pI (pI (pI σ 46 0 0) 46 1 v) 46 2 0) 46 3 0) 46 4 0) 46 5 0) 46 6 0
theorem rst_k (v : Int32) (σ : St) : Kz σ (rst v σ) := ((((((Kz.g.tr Kz.g).tr Kz.g).tr Kz.g).tr Kz.g).tr Kz.g).tr Kz.g)
theorem e_s0 {σ : St} {A : Nat → Int32} {T i t n : Nat} (h : Cl σ A T) (hi : i ≤ T) (ht : t ≤ i) : (¬ isW A T i 6 cw0 → ∃ σ2, f_X3_faultInto_11 (n + 1) 0 (nI i) (nI t) σ = some (nI i, σ2) ∧ Kz σ σ2) ∧ (isW A T i 6 cw0 → f_X3_faultInto_11 (n + 1) 0 (nI i) (nI t) σ = f_X3_faultInto_11 n 1 (nI (nx A T i)) (nI (t + 1)) σ) := by
  refine e_comb h hi ht (by decide) (fun q => knd_lt (by rw [q.1]; decide)) (fun hl hn => ⟨σ, ?_, Kz.rf⟩) (fun ho => ?_) (by decide) Kz.rf
  · unfold f_X3_taken
    rw [e_number h hl, bd_s, if_pos rfl, e_word0 h hl, bd_s, if10, if_neg hn]
  · have hl : i < T := knd_lt (by rw [ho.1]; decide)
    unfold f_X3_taken
    rw [e_number h hl, bd_s, if_pos rfl, e_word0 h hl, bd_s, if10, if_pos ho]
theorem e_s1 {σ : St} {A : Nat → Int32} {T i t n : Nat} (h : Cl σ A T) (hi : i ≤ T) (ht : t ≤ i) : (¬ okN A T i 0 9 → ∃ σ2, f_X3_faultInto_11 (n + 1) 1 (nI i) (nI t) σ = some (nI i, σ2) ∧ Kz σ σ2) ∧ (okN A T i 0 9 → f_X3_faultInto_11 (n + 1) 1 (nI i) (nI t) σ = f_X3_faultInto_11 n 2 (nI (nx A T i)) (nI (t + 1)) (rst (nv A T i) σ)) := by
  refine e_comb h hi ht (by decide) okN.lt (fun hl hn => ⟨σ, ?_, Kz.rf⟩) (fun ho => ?_) (by decide) (rst_k _ _)
  · unfold f_X3_taken
    rw [e_number h hl, bd_s, if_neg (by decide), if_pos rfl, e_within, bd_s, if10, if_neg (fun e => hn ((rng (by decide)).mp e))]
  · unfold f_X3_taken
    rw [e_number h ho.lt, bd_s, if_neg (by decide), if_pos rfl, e_within, bd_s, if10, if_pos ((rng (by decide)).mpr ho), if_pos ho.1]
    rfl
theorem e_s2 {σ : St} {A : Nat → Int32} {T i t n : Nat} (h : Cl σ A T) (hi : i ≤ T) (ht : t ≤ i) : (¬ knd A T i = 3 → ∃ σ2, f_X3_faultInto_11 (n + 1) 2 (nI i) (nI t) σ = some (nI i, σ2) ∧ Kz σ σ2) ∧ (knd A T i = 3 → f_X3_faultInto_11 (n + 1) 2 (nI i) (nI t) σ = f_X3_faultInto_11 n 3 (nI (nx A T i)) (nI (t + 1)) σ) := by
  have hT := h.1
  refine e_comb h hi ht (by decide) (fun q => knd_lt (by rw [q]; decide)) (fun hl hn => ⟨σ, ?_, Kz.rf⟩) (fun ho => ?_) (by decide) Kz.rf
  · unfold f_X3_taken
    rw [e_number h hl, bd_s, if_neg (by decide), if_neg (by decide), if_pos rfl, e_get (a := 74) (show i < 150 by omega), bd_s, h.2.2 i hl, if_neg (fun e => hn ((knd_3 hl).mpr e))]
  · have hl : i < T := knd_lt (by rw [ho]; decide)
    unfold f_X3_taken
    rw [e_number h hl, bd_s, if_neg (by decide), if_neg (by decide), if_pos rfl, e_get (a := 74) (show i < 150 by omega), bd_s, h.2.2 i hl, if_pos ((knd_3 hl).mp ho)]
theorem e_s4 {σ : St} {A : Nat → Int32} {T i t n : Nat} (h : Cl σ A T) (hi : i ≤ T) (ht : t ≤ i) : (¬ okN A T i 0 5 → ∃ σ2, f_X3_faultInto_11 (n + 1) 4 (nI i) (nI t) σ = some (nI i, σ2) ∧ Kz σ σ2) ∧ (okN A T i 0 5 → f_X3_faultInto_11 (n + 1) 4 (nI i) (nI t) σ = f_X3_faultInto_11 n 5 (nI (nx A T i)) (nI (t + 1)) (pI σ 72 2 (nv A T i))) := by
  refine e_comb h hi ht (by decide) okN.lt (fun hl hn => ⟨pI σ 72 2 (if knd A T i = 2 then nmf A (wdt A T i) i 0 else -1), ?_, Kz.p (j := 2) (by decide)⟩) (fun ho => ?_) (by decide) (Kz.p (by decide))
  · unfold f_X3_taken
    rw [e_number h hl, bd_s, if_neg (by decide), if_neg (by decide), if_neg (by decide), if_neg (by decide), if_pos rfl, e_within, bd_s, if10, if_neg (fun e => hn ((rng (by decide)).mp e))]
  · unfold f_X3_taken
    rw [e_number h ho.lt, bd_s, if_neg (by decide), if_neg (by decide), if_neg (by decide), if_neg (by decide), if_pos rfl, e_within, bd_s, if10, if_pos ((rng (by decide)).mpr ho), if_pos ho.1]
    rfl
theorem e_s5 {σ : St} {A : Nat → Int32} {T i t n : Nat} (h : Cl σ A T) (hi : i ≤ T) (ht : t ≤ i) : (¬ okN A T i 0 1 → ∃ σ2, f_X3_faultInto_11 (n + 1) 5 (nI i) (nI t) σ = some (nI i, σ2) ∧ Kz σ σ2) ∧ (okN A T i 0 1 → f_X3_faultInto_11 (n + 1) 5 (nI i) (nI t) σ = f_X3_faultInto_11 n 6 (nI (nx A T i)) (nI (t + 1)) (pI σ 72 3 (nv A T i))) := by
  refine e_comb h hi ht (by decide) okN.lt (fun hl hn => ⟨pI σ 72 3 (if knd A T i = 2 then nmf A (wdt A T i) i 0 else -1), ?_, Kz.p (j := 3) (by decide)⟩) (fun ho => ?_) (by decide) (Kz.p (by decide))
  · unfold f_X3_taken
    rw [e_number h hl, bd_s, if_neg (by decide), if_neg (by decide), if_neg (by decide), if_neg (by decide), if_neg (by decide), if_pos rfl, e_within, bd_s, if10, if_neg (fun e => hn ((rng (by decide)).mp e))]
  · unfold f_X3_taken
    rw [e_number h ho.lt, bd_s, if_neg (by decide), if_neg (by decide), if_neg (by decide), if_neg (by decide), if_neg (by decide), if_pos rfl, e_within, bd_s, if10, if_pos ((rng (by decide)).mpr ho), if_pos ho.1]
    rfl
theorem e_s6 {σ : St} {A : Nat → Int32} {T i t n : Nat} (h : Cl σ A T) (hi : i ≤ T) (ht : t ≤ i) : (¬ okN A T i 1 20 → ∃ σ2, f_X3_faultInto_11 (n + 1) 6 (nI i) (nI t) σ = some (nI i, σ2) ∧ Kz σ σ2) ∧ (okN A T i 1 20 → f_X3_faultInto_11 (n + 1) 6 (nI i) (nI t) σ = f_X3_faultInto_11 n 7 (nI (nx A T i)) (nI (t + 1)) (pI σ 72 4 (nv A T i))) := by
  refine e_comb h hi ht (by decide) okN.lt (fun hl hn => ⟨pI σ 72 4 (if knd A T i = 2 then nmf A (wdt A T i) i 0 else -1), ?_, Kz.p (j := 4) (by decide)⟩) (fun ho => ?_) (by decide) (Kz.p (by decide))
  · unfold f_X3_taken
    rw [e_number h hl, bd_s, if_neg (by decide), if_neg (by decide), if_neg (by decide), if_neg (by decide), if_neg (by decide), if_neg (by decide), if_pos rfl, e_within, bd_s, if10, if_neg (fun e => hn ((rng (by decide)).mp e))]
  · unfold f_X3_taken
    rw [e_number h ho.lt, bd_s, if_neg (by decide), if_neg (by decide), if_neg (by decide), if_neg (by decide), if_neg (by decide), if_neg (by decide), if_pos rfl, e_within, bd_s, if10, if_pos ((rng (by decide)).mpr ho), if_pos ho.1]
    rfl
def adl (c : Nat) (kd s w : Int32) (σ : St) : St := pI (pI (pI (pA (pA σ 48 c kd) 50 c w) 46 2 (sI σ 46 2 ||| (s <<< (nI c &&& 31)))) 46 0 (nI (c + 1))) 46 6 0
theorem adl_k (c : Nat) (kd s w : Int32) (σ : St) : Kz σ (adl c kd s w σ) := ((((Kz.a (by decide)).tr (Kz.a (by decide))).tr Kz.g).tr Kz.g).tr Kz.g
theorem e_add {σ : St} {c : Nat} (hc : sI σ 46 0 = nI c) (h8 : c < 8) (kd s w : Int32) : f_X0_addLock_46 kd s w σ = some (adl c kd s w σ) := by
  unfold f_X0_addLock_46
  rw [hc, e_put (a := 48) (show c < 8 from h8), bv_s, show sI (pA σ 48 c kd) 46 0 = nI c from hc, e_put (a := 50) (show c < 8 from h8), bv_s, show sI (pA (pA σ 48 c kd) 50 c w) 46 0 = nI c from hc, nI_1]
  rfl
theorem e_s7 {σ : St} {A : Nat → Int32} {T i t n c : Nat} (h : Cl σ A T) (hi : i ≤ T) (ht : t ≤ i) (hc : sI σ 46 0 = nI c) (h8 : c < 8) : (¬ knd A T i = 3 → ∃ σ2, f_X3_faultInto_11 (n + 1) 7 (nI i) (nI t) σ = some (nI i, σ2) ∧ Kz σ σ2) ∧ (knd A T i = 3 → f_X3_faultInto_11 (n + 1) 7 (nI i) (nI t) σ = f_X3_faultInto_11 n 3 (nI (nx A T i)) (nI (t + 1)) (adl c (sI σ 72 2) (sI σ 72 3) (sI σ 72 4) σ)) := by
  have hT := h.1
  refine e_comb h hi ht (by decide) (fun q => knd_lt (by rw [q]; decide)) (fun hl hn => ⟨σ, ?_, Kz.rf⟩) (fun ho => ?_) (by decide) (adl_k _ _ _ _ _)
  · unfold f_X3_taken
    rw [e_number h hl, bd_s, if_neg (by decide), if_neg (by decide), if_neg (by decide), if_neg (by decide), if_neg (by decide), if_neg (by decide), if_neg (by decide), e_get (a := 74) (show i < 150 by omega), bd_s, h.2.2 i hl, if_neg (fun e => hn ((knd_3 hl).mpr e))]
  · have hl : i < T := knd_lt (by rw [ho]; decide)
    unfold f_X3_taken
    rw [e_number h hl, bd_s, if_neg (by decide), if_neg (by decide), if_neg (by decide), if_neg (by decide), if_neg (by decide), if_neg (by decide), if_neg (by decide), e_get (a := 74) (show i < 150 by omega), bd_s, h.2.2 i hl, if_pos ((knd_3 hl).mp ho), e_add hc h8, bv_s]
theorem e_s3 {σ : St} {A : Nat → Int32} {T i t n c : Nat} (h : Cl σ A T) (hi : i < T) (ht : t ≤ i) (hc : sI σ 46 0 = nI c) (h8 : c ≤ 8) : (¬ (isW A T i 4 cw1 ∧ c < 8) → f_X3_faultInto_11 (n + 1) 3 (nI i) (nI t) σ = some (nI i, σ)) ∧ (isW A T i 4 cw1 ∧ c < 8 → f_X3_faultInto_11 (n + 1) 3 (nI i) (nI t) σ = f_X3_faultInto_11 n 4 (nI (nx A T i)) (nI (t + 1)) σ) := by
  have e0 : f_X3_taken 3 (nI i) (nI (tke A T i)) σ = some (if isW A T i 4 cw1 ∧ c < 8 then 4 else 8, σ) := by
    unfold f_X3_taken
    rw [e_number h hi, bd_s, if_neg (by decide), if_neg (by decide), if_neg (by decide), if_pos rfl, e_word1 h hi, bd_s, if10, hc]
    by_cases h1 : isW A T i 4 cw1
    · rw [if_pos h1]
      by_cases h2 : c < 8
      · rw [if_neg (show ¬ (8 : Int32) ≤ nI c from nI_ge (b := 8) h2 (by decide)), if_pos ⟨h1, h2⟩]
      · rw [if_pos (show (8 : Int32) ≤ nI c from nI_le (a := 8) (by omega) (by omega)), if_neg (fun q => h2 q.2)]
    · rw [if_neg h1, if_neg (fun q => h1 q.1)]
  constructor
  · intro hn
    rw [if_neg hn] at e0
    exact e_bad h hi ht e0
  · intro ho
    rw [if_pos ho] at e0
    exact e_ok h hi ht (by decide) Kz.rf e0
