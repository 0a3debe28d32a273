/-! locks made right, waits, hire -/
theorem sR_sR (σ : St) (a : Nat) (f g : Nat → Int32) : sR (sR σ a f) a g = sR σ a g := by
  unfold sR
  dsimp only
  congr 2
  funext k n
  by_cases h : k = a
  · rw [if_pos h, if_pos h]
  · rw [if_neg h, if_neg h, if_neg h]
theorem e_right {σ : St} {L B : Nat} {dn ah st mo : Int32} {k : Nat} {KD RD : Nat → Int32} (h : Tq σ L B dn ah st mo k KD RD) {S : Nat} (hS : S < 256) : ∃ τ, f_X4_goWithRight (nI S) σ = some (rnT L (wr dn B S) dn ah st mo k KD RD L, τ) ∧ Tr σ τ ∧ Tq τ L B dn ah st mo k KD RD := by
  have hB := h.2.2.1
  have hB8 := h.2.2.2.1
  have h0 := h.2.2.2.2.1
  have hd := h.2.2.2.2.2.1
  have hq := h.stands (wr_lt (dn := dn) hB8 hS)
  obtain ⟨τ, e, hs, -⟩ := e_go hq
  have e1 : f_X4_goWithRight (nI S) σ = f_X4_goWithRight_30 (nI B) (nI (wr dn B S)) σ := by
    unfold f_X4_goWithRight wr
    rw [h0, hB]
    rcases hd with rfl | rfl
    · rw [if_pos rfl, if_pos rfl, wr_1 B hB8 S hS]
    · rw [if_neg (by decide), if_neg (by decide), wr_2 B hB8 S hS]
  rw [e1]
  unfold f_X4_goWithRight_30
  rw [e, bd_s]
  refine ⟨_, rfl, (Tr.pI.tr hs.Tr).tr Tr.pI, ?_⟩
  have hq2 := (hq.moved hs).stands hB8
  exact hq2
theorem m_right_loop {σ : St} {F : Nat → Int32} {dn ah st : Int32} {k L S B : Nat} {KD RD : Nat → Int32} (hd : dn = 0 ∨ dn = 1) (hah : ah = 0 ∨ ah = 1 ∨ ah = 2) (hk1 : 1 ≤ k) (hk9 : k ≤ 9) (h0 : sA σ 76 0 = nI L) (hL8 : L ≤ 8) (hst : sI σ 75 12 = st) (hK : ∀ i, i < L → sA σ 76 (6 + 3 * i) = KD i ∧ sA σ 76 (8 + 3 * i) = RD i) (hS : S < 256) (hF : ∀ i, i < L → F i = nI (B / 2 ^ i % 2)) : ∀ (n j : Nat), L - j < n → j ≤ L → ∃ τ, f_X6_runWith_7 n (nI S) dn ah (nI k) (nI j) (sR σ 80 (fun m => if m < j then nI (wr dn B S / 2 ^ m % 2) else F m)) = some (rnT L (wr dn B S) dn ah st 0 k KD RD L, τ) ∧ Mr σ τ := by
  intro n
  induction n with
  | zero => intro j h; omega
  | succ n ih =>
    intro j hn hj
    have z0 : sA (sR σ 80 (fun m => if m < j then nI (wr dn B S / 2 ^ m % 2) else F m)) 76 0 = nI L := h0
    rw [f_X6_runWith_7, f_X6_locks, bd_s, z0]
    by_cases he : j = L
    · subst he
      have hq : Mq (sR σ 80 (fun m => if m < j then nI (wr dn B S / 2 ^ m % 2) else F m)) j (wr dn B S) st KD RD := by
        refine ⟨h0, hL8, hst, fun i hi => ?_, fun i hi => ?_⟩
        · rw [sR_at, if_pos hi]
        · rw [sR_o _ _ _ _ _ (by decide), sR_o _ _ _ _ _ (by decide)]; exact hK i hi
      obtain ⟨τ, e, hm, -⟩ := m_go (mo := 0) hd hah hk1 hk9 hq
      rw [if_pos (nI_le (Nat.le_refl _) (by omega)), e, bd_s]
      exact ⟨τ, rfl, Mr.tr (τ := sR σ 80 (fun m => if m < j then nI (wr dn B S / 2 ^ m % 2) else F m)) ⟨fun k b h => rfl, fun _ _ => rfl, fun k h b => sR_o _ _ _ _ _ (by omega)⟩ hm.Mr⟩
    · have hj8 : j < 8 := by omega
      have g8 : ¬ (nI j < 0 ∨ 8 ≤ j) := by
        rintro (q | q)
        · exact nI_pos (by omega) q
        · omega
      rw [if_neg (nI_ge (show j < L by omega) (by omega)), bit_at j hj8 S hS]
      unfold f_X6_runWith_43
      rw [nI_c (by omega), gd_ok g8, gd_ok g8, gd_ok g8, sR_pA, sR_pA, sR_at, if_neg (Nat.lt_irrefl j), nI_1]
      have key : ∀ v : Int32, v = nI (wr dn B S / 2 ^ j % 2) → ∃ τ, f_X6_runWith_7 n (nI S) dn ah (nI k) (nI (j + 1)) (sR σ 80 (upd (fun m => if m < j then nI (wr dn B S / 2 ^ m % 2) else F m) j v)) = some (rnT L (wr dn B S) dn ah st 0 k KD RD L, τ) ∧ Mr σ τ := by
        intro v hv
        have e : upd (fun m => if m < j then nI (wr dn B S / 2 ^ m % 2) else F m) j v = (fun m => if m < j + 1 then nI (wr dn B S / 2 ^ m % 2) else F m) := by
          funext m
          unfold upd
          dsimp only
          by_cases h1 : m = j
          · rw [if_pos h1, if_pos (by omega), hv, h1]
          · rw [if_neg h1]
            by_cases h2 : m < j
            · rw [if_pos h2, if_pos (by omega)]
            · rw [if_neg h2, if_neg (by omega)]
        rw [e]
        exact ih (j + 1) (by omega) (by omega)
      have hb := wr_bit hd (B := B) (S := S) hj8
      by_cases hc : S / 2 ^ j % 2 = 1
      · rw [if_pos (show nI (S / 2 ^ j % 2) = 1 by rw [hc]; rfl)]
        refine key dn ?_
        rw [hb, if_pos hc]
      · rw [if_neg (show ¬ nI (S / 2 ^ j % 2) = 1 from fun e => hc ((nI_eq (b := 1) (by omega) (by decide)).mp e))]
        refine key _ ?_
        rw [hb, if_neg hc, hF j (by omega)]
theorem m_right {σ : St} {L B : Nat} {st : Int32} {KD RD : Nat → Int32} (h : RI σ L B st KD RD) {dn ah : Int32} {k S : Nat} (hd : dn = 0 ∨ dn = 1) (hah : ah = 0 ∨ ah = 1 ∨ ah = 2) (hk1 : 1 ≤ k) (hk9 : k ≤ 9) (hS : S < 256) : ∃ τ, f_X6_runWith (nI S) dn ah (nI k) σ = some (rnT L (wr dn B S) dn ah st 0 k KD RD L, τ) ∧ Mr σ τ := by
  obtain ⟨q1, q2, q3, q4, q5⟩ := h.mq
  have hL8 := h.2.1
  unfold f_X6_runWith
  rw [m_layHand, bv_s]
  have hl := m_right_loop (σ := sR (pI σ 75 12 (sA σ 76 1)) 80 (fun m => if m < 8 then sA σ 76 (7 + 3 * m) else sA σ 80 m)) (F := fun m => if m < 8 then sA σ 76 (7 + 3 * m) else sA σ 80 m) (S := S) (B := B) hd hah hk1 hk9 q1 q2 q3 q5 hS (fun i hi => by
    have := q4 i hi
    rw [sR_at] at this
    exact this) FU 0 (FU_lt (by omega)) (by omega)
  obtain ⟨τ, e, hM⟩ := hl
  refine ⟨τ, ?_, (Mr.hand σ).tr hM⟩
  have e2 : sR (sR (pI σ 75 12 (sA σ 76 1)) 80 (fun m => if m < 8 then sA σ 76 (7 + 3 * m) else sA σ 80 m)) 80 (fun m => if m < 0 then nI (wr dn B S / 2 ^ m % 2) else (fun m => if m < 8 then sA σ 76 (7 + 3 * m) else sA σ 80 m) m) = sR (pI σ 75 12 (sA σ 76 1)) 80 (fun m => if m < 8 then sA σ 76 (7 + 3 * m) else sA σ 80 m) := by
    rw [sR_sR]
    congr 1
  rw [e2] at e
  exact e
def lfs (dn : Int32) (L : Nat) : Nat → Nat → Nat → Nat
  | 0, _, S => S
  | n + 1, p, S => lfs dn L n (p + 1) (S ||| 2 ^ lk dn L p)
theorem lfs_lt {dn : Int32} {L : Nat} (hL8 : L ≤ 8) : ∀ (n p S : Nat), p + n ≤ L → S < 256 → lfs dn L n p S < 256 := by
  intro n
  induction n with
  | zero => intro p S _ h; exact h
  | succ n ih =>
    intro p S hp hS
    rw [lfs]
    exact ih (p + 1) _ (by omega) (or_pow_lt hS (Nat.lt_of_lt_of_le (lk_lt (by omega)) hL8))
theorem e_locksFrom {σ : St} {L : Nat} {dn : Int32} (hd : dn = 0 ∨ dn = 1) (hL8 : L ≤ 8) (hL : sI σ 1 0 = nI L) : ∀ (n p S : Nat), L - p < n → p ≤ L → S < 256 → f_X0_locksFrom_1_5 n dn (nI S) (nI p) σ = some (nI (lfs dn L (L - p) p S), σ) := by
  intro n
  induction n with
  | zero => intro p S h; omega
  | succ n ih =>
    intro p S hn hp hS
    rw [f_X0_locksFrom_1_5, hL]
    by_cases he : p = L
    · subst he
      rw [if_pos (nI_le (Nat.le_refl _) (by omega)), Nat.sub_self]
      rfl
    · have hlk : lk dn L p < 8 := Nat.lt_of_lt_of_le (lk_lt (by omega)) hL8
      obtain ⟨m, hm⟩ : ∃ m, L - p = m + 1 := ⟨L - p - 1, by omega⟩
      have em : L - (p + 1) = m := by omega
      rw [if_neg (nI_ge (show p < L by omega) (by omega)), e_lockAt hd hL (show p < L by omega), bd_s, or_pow S hS _ hlk, nI_1, ih (p + 1) _ (by omega) (by omega) (or_pow_lt hS hlk), em, hm, lfs]
theorem m_waits_loop {σ : St} {L B : Nat} {st : Int32} {KD RD : Nat → Int32} (h : RI σ L B st KD RD) {dn ah w : Int32} {k : Nat} (hd : dn = 0 ∨ dn = 1) (hah : ah = 0 ∨ ah = 1 ∨ ah = 2) (hk1 : 1 ≤ k) (hk9 : k ≤ 9) : ∀ (n p S : Nat), L - p < n → p ≤ L → S < 256 → ∃ τ, f_X6_waits_45 n dn ah (nI k) w (nI S) (nI p) σ = some ((if rnT L B dn ah st (2 * 0) k KD RD L ≤ w + rnT L (wr dn B (lfs dn L (L - p) p S)) dn ah st 0 k KD RD L then (if w + rnT L (wr dn B (lfs dn L (L - p) p S)) dn ah st 0 k KD RD L ≤ rnT L B dn ah st (2 * 0) k KD RD L then 0 else -1) else 1), τ) ∧ Mr σ τ := by
  have hL8 := h.2.1
  have hA : sA σ 76 0 = nI L := h.2.2.2.2.2.2.2.1
  intro n
  induction n with
  | zero => intro p S h; omega
  | succ n ih =>
    intro p S hn hp hS
    rw [f_X6_waits_45, f_X6_locks, bd_s, hA]
    by_cases he : p = L
    · subst he
      obtain ⟨τ, e1, hM⟩ := m_right h hd hah hk1 hk9 hS
      obtain ⟨τ2, e2, hM2, -⟩ := m_runNow (h.moved hM.Rl) (sh := 0) hd hah hk1 hk9
      rw [if_pos (nI_le (Nat.le_refl _) (by omega)), e1, bd_s, e2, bd_s, Nat.sub_self, lfs]
      refine ⟨τ2, ?_, hM.tr hM2⟩
      split
      · split <;> rfl
      · rfl
    · have hlk : lk dn L p < 8 := Nat.lt_of_lt_of_le (lk_lt (by omega)) hL8
      obtain ⟨m, hm⟩ : ∃ m, L - p = m + 1 := ⟨L - p - 1, by omega⟩
      have em : L - (p + 1) = m := by omega
      rw [if_neg (nI_ge (show p < L by omega) (by omega)), m_lockAt hd hA (show p < L by omega), bd_s, or_pow S hS _ hlk, nI_1]
      obtain ⟨τ, e1, hM⟩ := ih (p + 1) (S ||| 2 ^ lk dn L p) (by omega) (by omega) (or_pow_lt hS hlk)
      rw [em] at e1
      rw [hm, lfs]
      exact ⟨τ, e1, hM⟩
theorem eq_waits {σ : St} (h : JJ σ) (d a k x w : Int32) : EQI (f_X5_waits d a k x w) (f_X6_waits d a k x w) σ := by
  obtain ⟨L, B, st, KD, RD, hri⟩ := h.ri
  have hL : sI σ 1 0 = nI L := hri.1
  have hA : sA σ 76 0 = nI L := hri.2.2.2.2.2.2.2.1
  have hL8 : L ≤ 8 := hri.2.1
  have hAb : sA (pI σ 0 10 (sI σ 0 10 + 1)) 76 0 = nI L := hA
  unfold EQI f_X5_waits f_X6_waits f_X5_refusedBad f_X6_bad
  simp only [e_isRun, e_has hL, e_within, m_isRun, bd_s, if10]
  by_cases h1 : QR d a k
  · have h1' : QR d a k ∧ ((0 : Int32) ≤ 0 ∧ (0 : Int32) ≤ 1) := ⟨h1, by decide⟩
    by_cases h2 : 0 ≤ x ∧ x ≤ nI L - 1
    · by_cases h3 : 0 ≤ w ∧ w ≤ 60
      · simp only [if_pos h1, if_pos h1', if_pos h2, if_pos h3]
        obtain ⟨hd, hah, n, hn1, hn9, rfl⟩ := QR.get h1
        obtain ⟨p, hp, rfl⟩ := (has_iff hL8).mp h2
        obtain ⟨τ, e1, hT, hq, ha, h7, h8, t6, t3⟩ := c_run hri (ah := a) (sh := 0) hd hn1 hn9
        have el := e_locksFrom hd hL8 hq.1 FU p 0 (FU_lt (by omega)) (by omega) (by decide)
        have el' : f_X0_locksFrom_1 d (nI p) τ = some (nI (lfs d L (L - p) p 0), τ) := el
        have hlf : lfs d L (L - p) p 0 < 256 := lfs_lt hL8 (L - p) p 0 (by omega) (by decide)
        obtain ⟨τ2, e2, hT2, -⟩ := e_right hq hlf
        have hTr : Tr σ τ2 := hT.tr hT2
        obtain ⟨υ, e3, hM⟩ := m_waits_loop (hri.moved hTr.Rl) (w := w) hd hah hn1 hn9 FU p 0 (FU_lt (by omega)) (by omega) (by decide)
        refine ⟨(if rnT L B d a st (2 * 0) n KD RD L ≤ w + rnT L (wr d B (lfs d L (L - p) p 0)) d a st 0 n KD RD L then (if w + rnT L (wr d B (lfs d L (L - p) p 0)) d a st 0 n KD RD L ≤ rnT L B d a st (2 * 0) n KD RD L then 0 else -1) else 1), τ2, υ, ?_, ?_, h.moved (hTr.Rl.tr hM.Rl)⟩
        rotate_left 1
        · rw [m_isLock ((hri.moved hTr.Rl).2.2.2.2.2.2.2.1), bd_s, if_pos h2, if_neg (by decide), m_inI w 0 60 0 60 rfl rfl, bd_s, if_pos h3, if_neg (by decide)]
          exact e3
        · rw [e1, el', bd_s, e2, bd_s]
          unfold f_J6_compare_7cf53
          show bd (if w + rnT L (wr d B (lfs d L (L - p) p 0)) d a st (2 * 0) n KD RD L ≤ rnT L B d a st (2 * 0) n KD RD L then _ else _) _ = _
          rw [show (2 : Int32) * 0 = 0 from rfl]
          generalize rnT L B d a st 0 n KD RD L = u
          generalize w + rnT L (wr d B (lfs d L (L - p) p 0)) d a st 0 n KD RD L = v
          by_cases c1 : v ≤ u
          · rw [if_pos c1]
            by_cases c2 : u = v
            · rw [if_pos c2, bd_s, if_pos (by rw [c2]; exact Int32.le_refl v), if_pos c1]
            · rw [if_neg c2, bd_s, if_neg (fun q => c2 (Int32.le_antisymm q c1))]
          · rw [if_neg c1, bd_s, if_pos (Int32.le_of_lt (Int32.not_le.mp c1)), if_neg c1]
      · simp only [if_pos h1, if_pos h1', if_pos h2, if_neg h3]
        refine ⟨_, _, _, rfl, ?_, h.bad⟩
        rw [m_isLock hAb, bd_s, if_pos h2, if_neg (by decide), m_inI w 0 60 0 60 rfl rfl, bd_s, if_neg h3, if_pos rfl]
    · simp only [if_pos h1, if_pos h1', if_neg h2]
      refine ⟨_, _, _, rfl, ?_, h.bad⟩
      rw [m_isLock hAb, bd_s, if_neg h2, if_pos rfl]
  · simp only [if_neg h1, if_neg (fun q : QR d a k ∧ ((0 : Int32) ≤ 0 ∧ (0 : Int32) ≤ 1) => h1 q.1)]
    exact ⟨_, _, _, rfl, rfl, h.bad⟩
/-! how many of a set -/
def pcf : Nat → Nat → Nat
  | 0, _ => 0
  | n + 1, S => S % 2 + pcf n (S / 2)
theorem pcf_0 : ∀ n, pcf n 0 = 0 := by
  intro n
  induction n with
  | zero => rfl
  | succ n ih => rw [pcf, Nat.zero_div, ih]
theorem pcf_b : ∀ n S, pcf n S ≤ n := by
  intro n
  induction n with
  | zero => intro S; exact Nat.le_refl _
  | succ n ih =>
    intro S
    rw [pcf]
    have := ih (S / 2)
    have := Nat.mod_lt S (show 0 < 2 by decide)
    omega
theorem e_bc0 (σ : St) : ∀ S, S < 256 → (f_J6_bitCount_0f7a4 (nI S) σ).map Prod.fst = some (nI (pcf 8 S)) := by
  have h : ∀ S, S < 256 → (f_J6_bitCount_0f7a4 (nI S) (fun _ _ => 0, fun _ _ => 0, fun _ _ => 0)).map Prod.fst = some (nI (pcf 8 S)) := by decide +kernel
  intro S hS
  exact h S hS
theorem e_bc {S : Nat} (hS : S < 256) (σ : St) : f_J6_bitCount_0f7a4 (nI S) σ = some (nI (pcf 8 S), σ) := by
  have h := e_bc0 σ S hS
  unfold f_J6_bitCount_0f7a4 at h ⊢
  rw [Option.map_some] at h
  have h2 := Option.some.inj h
  rw [show ∀ (x y : Int32), x = y → (some (x, σ) : Option (Int32 × St)) = some (y, σ) from fun x y e => by rw [e]]
  exact h2
theorem m_bits_loop (σ : St) : ∀ (n m S : Nat) (x : Int32), n < m → S < 2 ^ n → n ≤ 8 → f_X6_bits_4 m x (nI S) σ = some (x + nI (pcf n S), σ) := by
  intro n
  induction n with
  | zero =>
    intro m S x hm hS _
    obtain ⟨m, rfl⟩ : ∃ m', m = m' + 1 := ⟨m - 1, by omega⟩
    have : S = 0 := by simpa using hS
    subst this
    rw [f_X6_bits_4, if_pos (by decide), pcf, show nI 0 = 0 from rfl, Int32.add_zero]
  | succ n ih =>
    intro m S x hm hS hn8
    obtain ⟨m, rfl⟩ : ∃ m', m = m' + 1 := ⟨m - 1, by omega⟩
    have hb : S < 256 := Nat.lt_of_lt_of_le hS (two_le hn8)
    rw [f_X6_bits_4]
    by_cases h0 : S = 0
    · subst h0
      rw [if_pos (by decide), pcf_0, show nI 0 = 0 from rfl, Int32.add_zero]
    · have e1 : nI S &&& 1 = nI (S % 2) := pk_andN (by omega) 1 rfl
      have e2 : nI S >>> ((1 : Int32) &&& 31) = nI (S / 2) := by
        have := pk_shrN (n := S) (by omega) ((1 : Int32) &&& 31) 1 (by decide)
        rw [this]
      have hS2 : S / 2 < 2 ^ n := by
        rw [Nat.pow_succ] at hS
        omega
      rw [if_neg (nI_nle (by omega) (by omega)), e1, e2, ih m (S / 2) _ (by omega) hS2 (by omega), pcf, Int32.add_assoc, nI_add]
theorem m_bits {S : Nat} (hS : S < 256) (σ : St) : f_X6_bits (nI S) σ = some (nI (pcf 8 S), σ) := by
  have h := m_bits_loop σ 8 FU S 0 (FU_lt (by decide)) hS (by decide)
  unfold f_X6_bits
  rw [h, Int32.zero_add]
theorem hire_loop {L B : Nat} {dn ah st n x5 : Int32} {k : Nat} {KD RD : Nat → Int32} (hd : dn = 0 ∨ dn = 1) (hah : ah = 0 ∨ ah = 1 ∨ ah = 2) (hk1 : 1 ≤ k) (hk9 : k ≤ 9) (hL8 : L ≤ 8) (hRD : ∀ i, i < L → ∃ m, m ≤ 20 ∧ RD i = nI m) : ∀ (m S b t : Nat) (σ τ : St), 2 ^ L - S < m → 1 ≤ S → S ≤ 2 ^ L → b < 256 → t ≤ 2000 → Tq σ L B dn ah st 0 k KD RD → RI τ L B st KD RD → ∃ r σ' τ', f_X5_hire_78 m n x5 (nI b) (nI t) (nI (2 ^ L - 1)) (nI S) σ = some (r, σ') ∧ Tr σ σ' ∧ f_X6_hire_56 m dn ah (nI k) n x5 (nI b) (nI t) (nI S) τ = some (r, τ') ∧ Mr τ τ' := by
  have h2L := two_le hL8
  have h2p := Nat.two_pow_pos L
  intro m
  induction m with
  | zero => intro S b t σ τ h; omega
  | succ m ih =>
    intro S b t σ τ hm hS1 hS hb ht hT hR
    have hA : sA τ 76 0 = nI L := hR.2.2.2.2.2.2.2.1
    have e1L : (1 : Int32) <<< (nI L &&& 31) = nI (2 ^ L) := by
      have := all_1 L hL8
      have e : (1 : Int32) <<< (nI L &&& 31) = ((1 : Int32) <<< (nI L &&& 31) - 1) + 1 := by rw [Int32.sub_add_cancel]
      rw [e, this, nI_1]
      congr 1; omega
    rw [f_X5_hire_78, f_X6_hire_56, f_X6_locks, bd_s, hA, e1L]
    by_cases he : S = 2 ^ L
    · rw [if_pos (nI_lt (show 2 ^ L - 1 < S by omega) (by omega)), if_pos (nI_le (show 2 ^ L ≤ S by omega) (by omega))]
      by_cases hx : x5 = 0
      · rw [if_pos hx, if_pos hx]
        exact ⟨_, σ, τ, rfl, Tr.rf, rfl, Mr.rf⟩
      · rw [if_neg hx, if_neg hx]
        exact ⟨_, σ, τ, rfl, Tr.rf, rfl, Mr.rf⟩
    · have hS8 : S < 256 := by omega
      rw [if_neg (nI_nlt (show S ≤ 2 ^ L - 1 by omega) (by omega)), if_neg (nI_ge (show S < 2 ^ L by omega) (by omega)), e_bc hS8, bd_s, m_bits hS8, bd_s]
      unfold f_X5_hire_138 f_X5_hire_146 f_X6_hire_91 f_X6_hire_120 f_X6_hire_124 f_X6_hire_125 f_X6_hire_139 f_X6_hire_153
      have hfin : ∀ (σ1 τ1 : St) (b' t' : Nat), Tr σ σ1 → Mr τ τ1 → Tq σ1 L B dn ah st 0 k KD RD → b' < 256 → t' ≤ 2000 → ∃ r σ' τ', f_X5_hire_78 m n x5 (nI b') (nI t') (nI (2 ^ L - 1)) (nI S + 1) σ1 = some (r, σ') ∧ Tr σ σ' ∧ f_X6_hire_56 m dn ah (nI k) n x5 (nI b') (nI t') (nI S + 1) τ1 = some (r, τ') ∧ Mr τ τ' := by
        intro σ1 τ1 b' t' g1 g2 g3 g4 g5
        rw [nI_1]
        obtain ⟨r, σ', τ', q1, q2, q3, q4⟩ := ih (S + 1) b' t' σ1 τ1 (by omega) (by omega) (by omega) g4 g5 g3 (hR.moved g2.Rl)
        exact ⟨r, σ', τ', q1, g1.tr q2, q3, g2.tr q4⟩
      have z1 : ¬ (1 : Int32) = 0 := by decide
      by_cases hc : n < nI (pcf 8 S)
      · rw [if_pos hc, if_pos hc, if_neg (show ¬ (1000000 : Int32) < nI t from nI_nlt (a := 1000000) (by omega) (by decide)), if_neg (show ¬ (1000000 : Int32) = nI t from fun e => by
          have := (nI_eq (a := 1000000) (b := t) (by decide) (by omega)).mp e
          omega), if_pos rfl, if_pos rfl]
        exact hfin σ τ b t Tr.rf Mr.rf hT hb ht
      · obtain ⟨σ1, e1, hT1, hq1⟩ := e_right hT hS8
        obtain ⟨τ1, e2, hM1⟩ := m_right hR hd hah hk1 hk9 hS8
        obtain ⟨u, hu, eu⟩ := rnT_b (B := wr dn B S) (dn := dn) (ah := ah) (st := st) (KD := KD) hL8 hk1 hRD ⟨0, by decide, rfl⟩
        rw [show nI 0 = (0 : Int32) from rfl] at eu
        rw [if_neg hc, if_neg hc, e1, bd_s, e2, bd_s, eu]
        by_cases c1 : nI u < nI t
        · rw [if_pos c1, if_pos c1, if_neg z1, if_neg z1]
          exact hfin σ1 τ1 S u hT1 hM1 hq1 hS8 hu
        · rw [if_neg c1, if_neg c1]
          by_cases c2 : nI u = nI t
          · rw [if_pos c2, if_pos c2, e_bc hb, bd_s, m_bits hS8, bd_s, m_bits hb, bd_s]
            by_cases c3 : nI (pcf 8 b) ≤ nI (pcf 8 S)
            · rw [if_pos c3, if_pos c3, if_pos rfl, if_pos rfl]
              exact hfin σ1 τ1 b t hT1 hM1 hq1 hb ht
            · rw [if_neg c3, if_neg c3, if_neg z1, if_neg z1]
              exact hfin σ1 τ1 S u hT1 hM1 hq1 hS8 hu
          · rw [if_neg c2, if_neg c2, if_pos rfl, if_pos rfl]
            exact hfin σ1 τ1 b t hT1 hM1 hq1 hb ht
theorem wr_0 {dn : Int32} {B : Nat} (hB : B < 256) : wr dn B 0 = B := by
  unfold wr
  split
  · have : ∀ B, B < 256 → B &&& (255 ^^^ 0) = B := by decide +kernel
    exact this B hB
  · exact Nat.or_zero B
theorem eq_hire {σ : St} (h : JJ σ) (d a k n w : Int32) : EQI (f_X5_hire d a k n w) (f_X6_hire d a k n w) σ := by
  obtain ⟨L, B, st, KD, RD, hri⟩ := h.ri
  have hL8 : L ≤ 8 := hri.2.1
  unfold EQI f_X5_hire f_X6_hire f_X5_refusedBad f_X6_bad
  simp only [e_isRun, e_within, m_isRun, m_inI n 0 3 0 3 rfl rfl, m_inI w 0 1 0 1 rfl rfl, bd_s, if10]
  by_cases h1 : QR d a k
  · have h1' : QR d a k ∧ ((0 : Int32) ≤ 0 ∧ (0 : Int32) ≤ 1) := ⟨h1, by decide⟩
    by_cases h2 : 0 ≤ n ∧ n ≤ 3
    · by_cases h3 : 0 ≤ w ∧ w ≤ 1
      · simp only [if_pos h1, if_pos h1', if_pos h2, if_pos h3]
        obtain ⟨hd, hah, q, hn1, hn9, rfl⟩ := QR.get h1
        obtain ⟨τ, e1, hT, hq, ha, h7, h8, t6, t3⟩ := c_run hri (ah := a) (sh := 0) hd hn1 hn9
        rw [show (2 : Int32) * 0 = 0 from rfl] at hq e1
        have eal : f_X0_allLocks_1 τ = some (nI (2 ^ L - 1), τ) := by
          unfold f_X0_allLocks_1
          rw [hq.1, all_1 L hL8]
        obtain ⟨t, ht, et⟩ := rnT_b (B := B) (dn := d) (ah := a) (st := st) (KD := KD) hL8 hn1 hri.2.2.2.2.2.2.1 ⟨0, by decide, rfl⟩
        rw [show nI 0 = (0 : Int32) from rfl] at et
        have h2L := two_le hL8
        have h2p := Nat.two_pow_pos L
        obtain ⟨r, σ', -, q1, q2, -, -⟩ := hire_loop (n := n) (x5 := w) hd hah hn1 hn9 hL8 hri.2.2.2.2.2.2.1 FU 1 0 t τ τ (FU_lt (by omega)) (by decide) (by omega) (by decide) ht hq (hri.moved hT.Rl)
        have hTr : Tr σ σ' := hT.tr q2
        obtain ⟨υ0, e2, hM0⟩ := m_right (hri.moved hTr.Rl) (S := 0) hd hah hn1 hn9 (by decide)
        obtain ⟨r', ρ, υ, z1, -, z3, z4⟩ := hire_loop (n := n) (x5 := w) hd hah hn1 hn9 hL8 hri.2.2.2.2.2.2.1 FU 1 0 t τ υ0 (FU_lt (by omega)) (by decide) (by omega) (by decide) ht hq (hri.moved (hTr.Rl.tr hM0.Rl))
        have er : r' = r := by
          rw [q1] at z1
          exact (congrArg Prod.fst (Option.some.inj z1)).symm
        subst er
        refine ⟨r', σ', υ, ?_, ?_, h.moved (hTr.Rl.tr (hM0.tr z4).Rl)⟩
        · rw [e1, eal, bd_s, et]
          exact q1
        · rw [show (0 : Int32) = nI 0 from rfl, e2, bd_s, wr_0 hri.b8, et]
          exact z3
      · simp only [if_pos h1, if_pos h1', if_pos h2, if_neg h3]
        exact ⟨_, _, _, rfl, rfl, h.bad⟩
    · simp only [if_pos h1, if_pos h1', if_neg h2]
      exact ⟨_, _, _, rfl, rfl, h.bad⟩
  · simp only [if_neg h1, if_neg (fun q : QR d a k ∧ ((0 : Int32) ≤ 0 ∧ (0 : Int32) ≤ 1) => h1 q.1)]
    exact ⟨_, _, _, rfl, rfl, h.bad⟩
