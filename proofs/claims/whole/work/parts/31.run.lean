/-! A RUN as numbers: place by place what comes, goes in, goes out, is done, was made ready -/
def lk (dn : Int32) (L j : Nat) : Nat := if dn = 0 then j else L - 1 - j
def rb (dn : Int32) (L j : Nat) : Nat := if dn = 0 then j - 1 else L - 1 - j
def rtb (dn : Int32) (B i : Nat) : Bool := decide (nI (B / 2 ^ i % 2) = dn)
def zC (w : Int32) (j : Nat) (O : Nat → Int32) : Int32 := if j = 0 then 0 else O (j - 1) + w
def zA (ah w : Int32) (k j : Nat) (C D : Nat → Int32) : Int32 := if j = 0 then 0 else (if j < k then D (j - 1) else (if D (j - 1) < C (j - k) then C (j - k) else D (j - 1))) + (if ah = 2 then (w + 1) / 2 else w)
def zD (ah st kd : Int32) (rt : Bool) (a : Int32) : Int32 := if ah = 0 then -1 else a + (if rt then 0 else rdy kd st)
def zK (kd : Int32) (rt : Bool) (c d : Int32) : Bool := !rt && decide (0 < sty kd) && decide (sty kd < c - d)
def zM (ah kd : Int32) (rt : Bool) (c d : Int32) : Int32 := if ah = 0 then (if rt then 0 else 1) else if zK kd rt c d then 2 else (if rt then 0 else 1)
def zI (ah st kd : Int32) (rt : Bool) (c d : Int32) : Int32 := if ah = 0 then c + (if rt then 0 else rdy kd st) else if zK kd rt c d then c + rdy kd st else (if c < d then d else c)
/-- comes, goes in, goes out, done, made -/
abbrev R5 : Type := (Nat → Int32) × (Nat → Int32) × (Nat → Int32) × (Nat → Int32) × (Nat → Int32)
def rn1 (L B : Nat) (dn ah st mo : Int32) (k : Nat) (KD RD : Nat → Int32) (j : Nat) (q : R5) : R5 :=
  let kd := KD (lk dn L j)
  let rt := rtb dn B (lk dn L j)
  let w := RD (rb dn L j)
  let c := zC w j q.2.2.1
  let d := zD ah st kd rt (zA ah w k j q.1 q.2.2.2.1)
  let i := zI ah st kd rt c d
  (upd q.1 j c, upd q.2.1 j i, upd q.2.2.1 j (i + psd kd st + mo), upd q.2.2.2.1 j d, upd q.2.2.2.2 j (zM ah kd rt c d))
def rn (L B : Nat) (dn ah st mo : Int32) (k : Nat) (KD RD : Nat → Int32) : Nat → R5
  | 0 => (fun _ => 0, fun _ => 0, fun _ => 0, fun _ => 0, fun _ => 0)
  | j + 1 => rn1 L B dn ah st mo k KD RD j (rn L B dn ah st mo k KD RD j)
def rnT (L B : Nat) (dn ah st mo : Int32) (k : Nat) (KD RD : Nat → Int32) (j : Nat) : Int32 := if j = 0 then 0 else (rn L B dn ah st mo k KD RD j).2.2.1 (j - 1)
def rnW (L B : Nat) (dn ah st mo : Int32) (k : Nat) (KD RD : Nat → Int32) : Nat → Int32
  | 0 => 0
  | j + 1 => rnW L B dn ah st mo k KD RD j + (1 + (rn L B dn ah st mo k KD RD (j + 1)).2.2.2.2 j)
/-- five arrays hold the first j places -/
def Ag (σ : St) (a1 a2 a3 a4 a5 j : Nat) (q : R5) : Prop := ∀ i, i < j → sA σ a1 i = q.1 i ∧ sA σ a2 i = q.2.1 i ∧ sA σ a3 i = q.2.2.1 i ∧ sA σ a4 i = q.2.2.2.1 i ∧ sA σ a5 i = q.2.2.2.2 i
/-- what one place of a run writes -/
def Tw (σ τ : St) (b j : Nat) (c i o d m : Int32) : Prop := ∀ k n, sA τ k n = if k = b ∧ n = j then c else if k = b + 2 ∧ n = j then i else if k = b + 4 ∧ n = j then o else if k = b + 6 ∧ n = j then d else if k = b + 8 ∧ n = j then m else sA σ k n
theorem e_lockAt {dn : Int32} (hd : dn = 0 ∨ dn = 1) {L j : Nat} {σ : St} (hL : sI σ 1 0 = nI L) (h : j < L) : f_X0_lockAt_1 dn (nI j) σ = some (nI (lk dn L j), σ) := by
  unfold f_X0_lockAt_1 lk
  rcases hd with rfl | rfl
  · rw [if_pos rfl, if_pos rfl]
  · rw [if_neg (by decide), if_neg (by decide), hL]
    have e : nI L - 1 - nI j = nI (L - 1 - j) := by
      rw [show (1 : Int32) = nI 1 from rfl, pk_sub (show 1 ≤ L by omega), pk_sub (by omega)]
    rw [e]
theorem lk_lt {dn : Int32} {L j : Nat} (h : j < L) : lk dn L j < L := by
  unfold lk
  split <;> omega
theorem rb_lt {dn : Int32} {L j : Nat} (h : j < L) : rb dn L j < L := by
  unfold rb
  split <;> omega
theorem e_roadBehind {dn : Int32} (hd : dn = 0 ∨ dn = 1) {L j : Nat} {σ : St} (hL : sI σ 1 0 = nI L) (hL8 : L ≤ 8) (h0 : j ≠ 0) (h : j < L) : f_X0_roadBehind_1 dn (nI j - 1) σ = some (sA σ 5 (rb dn L j), σ) := by
  unfold f_X0_roadBehind_1
  have e1 : nI j - 1 = nI (j - 1) := by rw [show (1 : Int32) = nI 1 from rfl, pk_sub (by omega)]
  have e2 : nI (j - 1) + 1 = nI j := by rw [nI_1]; congr 1; omega
  rw [e1, e_lockAt hd hL (by omega), bd_s, e2, e_lockAt hd hL h, bd_s]
  have hm : (if nI (lk dn L j) < nI (lk dn L (j - 1)) then nI (lk dn L j) else nI (lk dn L (j - 1))) = nI (rb dn L j) := by
    unfold lk rb
    rcases hd with rfl | rfl
    · simp only [if_true]
      rw [if_neg (nI_nlt (by omega) (by omega))]
    · rw [if_neg (show ¬ (1 : Int32) = 0 by decide), if_neg (show ¬ (1 : Int32) = 0 by decide), if_neg (show ¬ (1 : Int32) = 0 by decide), if_pos (nI_lt (by omega) (by omega))]
  rw [hm, e_get (a := 5) (show rb dn L j < 8 from Nat.lt_of_lt_of_le (rb_lt h) hL8), bd_s]
theorem e_isRight {dn : Int32} {B i : Nat} {σ : St} (hB : sI σ 61 5 = nI B) (hB8 : B < 256) (hi : i < 8) (hdn : sI σ 61 0 = dn) : f_X4_isRight (nI i) σ = some (if rtb dn B i then 1 else 0, σ) := by
  unfold f_X4_isRight rtb
  rw [hB, hdn, bit_at i hi B hB8]
  by_cases h : nI (B / 2 ^ i % 2) = dn
  · rw [if_pos h, if_pos (by simpa using h)]
  · rw [if_neg h, if_neg (by simpa using h)]
theorem e_aheadComes {ah w : Int32} {k j : Nat} {σ : St} (hah : sI σ 61 1 = ah) (hk : sI σ 61 2 = nI k) (hk1 : 1 ≤ k) (hk9 : k ≤ 9) (hj : j < 8) : f_X4_aheadComes (nI j) w σ = some (zA ah w k j (sA σ 63) (sA σ 69), σ) := by
  unfold f_X4_aheadComes zA
  by_cases h0 : j = 0
  · subst h0
    rw [if_pos nI_0, if_pos rfl]
  · rw [if_neg (nI_ne0 (by omega) (by omega)), if_neg h0]
    have e1 : nI j - 1 = nI (j - 1) := by rw [show (1 : Int32) = nI 1 from rfl, pk_sub (by omega)]
    rw [e1, e_get (a := 69) (show j - 1 < 8 by omega), bd_s, hk]
    have aux : ∀ x : Int32, f_X4_aheadComes_43 w x σ = some (x + (if ah = 2 then (w + 1) / 2 else w), σ) := by
      intro x
      unfold f_X4_aheadComes_43 f_X5_halfCutUp
      rw [hah]
      by_cases h2 : ah = 2
      · rw [if_pos h2, if_pos h2, bd_s]
      · rw [if_neg h2, if_neg h2]
    by_cases h1 : j < k
    · rw [if_pos (nI_lt h1 (by omega)), if_pos h1, aux]
    · rw [if_neg (nI_nlt (by omega) (by omega)), if_neg h1, pk_sub (by omega), e_get (a := 63) (show j - k < 8 by omega), bd_s, aux]
theorem e_enterBehind {kd st : Int32} {rt : Bool} {j : Nat} {σ : St} (hj : j < 8) (hm : sA σ 71 j = if rt then 0 else 1) : f_X4_enterBehind (nI j) (rdy kd st) (sty kd) σ = some (if zK kd rt (sA σ 63 j) (sA σ 69 j) then pA (pA σ 71 j 2) 65 j (sA σ 63 j + rdy kd st) else pA σ 65 j (if sA σ 63 j < sA σ 69 j then sA σ 69 j else sA σ 63 j)) := by
  unfold f_X4_enterBehind f_X4_enterBehind_44 f_X4_enterBehind_45
  rw [e_get (a := 63) (show j < 8 from hj), bd_s, e_get (a := 71) (show j < 8 from hj), bd_s, hm]
  have no : (if (0 : Int32) = 0 then bd (f_X2_get 69 (nI j) σ) (fun r88 σ88 => bv (f_X2_put 65 (nI j) (if sA σ 63 j < r88 then r88 else sA σ 63 j) σ88) (fun σ94 => some σ94)) else bv (f_X2_put 71 (nI j) 2 σ) (fun σ58 => bv (f_X2_put 65 (nI j) (sA σ 63 j + rdy kd st) σ58) (fun σ70 => some σ70))) = some (pA σ 65 j (if sA σ 63 j < sA σ 69 j then sA σ 69 j else sA σ 63 j)) := by
    rw [if_pos rfl, e_get (a := 69) (show j < 8 from hj), bd_s, e_put (a := 65) (show j < 8 from hj), bv_s]
  cases rt
  · rw [if_neg (by decide : ¬ (if (false : Bool) = true then (0 : Int32) else 1) ≤ 0)]
    by_cases h1 : sty kd ≤ 0
    · have hz : zK kd false (sA σ 63 j) (sA σ 69 j) = false := by unfold zK; simp [Int32.not_lt.mpr h1]
      rw [if_pos h1, no, hz]; rfl
    · rw [if_neg h1, e_get (a := 69) (show j < 8 from hj), bd_s]
      by_cases h2 : sA σ 63 j - sA σ 69 j ≤ sty kd
      · have hz : zK kd false (sA σ 63 j) (sA σ 69 j) = false := by unfold zK; simp [Int32.not_lt.mpr h2]
        rw [if_pos h2, no, hz]; rfl
      · have hz : zK kd false (sA σ 63 j) (sA σ 69 j) = true := by unfold zK; simp [Int32.not_le.mp h1, Int32.not_le.mp h2]
        rw [if_neg h2, if_neg (by decide : ¬ (1 : Int32) = 0), e_put (a := 71) (show j < 8 from hj), bv_s, e_put (a := 65) (show j < 8 from hj), bv_s, hz]; rfl
  · rw [if_pos (by decide : (if (true : Bool) = true then (0 : Int32) else 1) ≤ 0), no]; rfl
/-- a run's words in the class's Trip: what stands in its fields -/
def Tq (σ : St) (L B : Nat) (dn ah st mo : Int32) (k : Nat) (KD RD : Nat → Int32) : Prop := sI σ 1 0 = nI L ∧ L ≤ 8 ∧ sI σ 61 5 = nI B ∧ B < 256 ∧ sI σ 61 0 = dn ∧ (dn = 0 ∨ dn = 1) ∧ sI σ 61 1 = ah ∧ sI σ 61 2 = nI k ∧ 1 ≤ k ∧ k ≤ 9 ∧ sI σ 61 4 = st ∧ sI σ 61 6 + 2 * sI σ 61 3 = mo ∧ (∀ i, i < L → sA σ 3 i = KD i ∧ sA σ 5 i = RD i)
/-- only the Trip's own cells, and of these not what was told -/
def Ts (σ τ : St) : Prop := (∀ k b, k ≠ 61 → sI τ k b = sI σ k b) ∧ (∀ b, b < 7 → sI τ 61 b = sI σ 61 b) ∧ (∀ k b, sL τ k b = sL σ k b) ∧ ∀ k, ¬ (62 ≤ k ∧ k ≤ 71) → ∀ b, sA τ k b = sA σ k b
theorem Ts.rf {σ : St} : Ts σ σ := ⟨fun _ _ _ => rfl, fun _ _ => rfl, fun _ _ => rfl, fun _ _ _ => rfl⟩
theorem Ts.tr {σ τ υ : St} (h1 : Ts σ τ) (h2 : Ts τ υ) : Ts σ υ := ⟨fun k b h => (h2.1 k b h).trans (h1.1 k b h), fun b h => (h2.2.1 b h).trans (h1.2.1 b h), fun k b => (h2.2.2.1 k b).trans (h1.2.2.1 k b), fun k h b => (h2.2.2.2 k h b).trans (h1.2.2.2 k h b)⟩
theorem Tq.moved {σ τ : St} {L B : Nat} {dn ah st mo : Int32} {k : Nat} {KD RD : Nat → Int32} (h : Tq σ L B dn ah st mo k KD RD) (hT : Ts σ τ) : Tq τ L B dn ah st mo k KD RD := by
  obtain ⟨h1, h2, h3, h4, h5, h6, h7, h8, h9, h10, h11, h12, h13⟩ := h
  refine ⟨(hT.1 _ _ (by decide)).trans h1, h2, (hT.2.1 _ (by decide)).trans h3, h4, (hT.2.1 _ (by decide)).trans h5, h6, (hT.2.1 _ (by decide)).trans h7, (hT.2.1 _ (by decide)).trans h8, h9, h10, (hT.2.1 _ (by decide)).trans h11, ?_, fun i hi => ⟨(hT.2.2.2 _ (by decide) _).trans (h13 i hi).1, (hT.2.2.2 _ (by decide) _).trans (h13 i hi).2⟩⟩
  rw [hT.2.1 6 (by decide), hT.2.1 3 (by decide)]
  exact h12
theorem i32_asc (a b c : Int32) : a + b + c = a + (b + c) := Int32.add_assoc a b c
/-- the end of one place: it goes out, the water -/
theorem go_212 {rc : Int32 → St → Option (Int32 × St)} {j : Nat} {kd : Int32} {σ : St} (hj : j < 8) : f_X4_go_212 rc (nI j) kd σ = rc (nI (j + 1)) (pI (pI (pA σ 67 j (sA σ 65 j + psd kd (sI σ 61 4) + (sI σ 61 6 + 2 * sI σ 61 3))) 61 7 (sA σ 65 j + psd kd (sI σ 61 4) + (sI σ 61 6 + 2 * sI σ 61 3))) 61 8 (sI σ 61 8 + (1 + sA σ 71 j))) := by
  unfold f_X4_go_212
  rw [e_get (a := 65) (show j < 8 from hj), bd_s, e_psd, bd_s, e_put (a := 67) (show j < 8 from hj), bv_s, e_get (a := 67) (show j < 8 from hj), bd_s, e_get (a := 71) (show j < 8 from hj), bd_s, nI_1, sA_self, i32_asc]
  rfl
