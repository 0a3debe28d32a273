/-! locks that stand right -/
def wr (dn : Int32) (B S : Nat) : Nat := if dn = 0 then B &&& (255 ^^^ S) else B ||| S
theorem wr_1 : ∀ B, B < 256 → ∀ S, S < 256 → nI B &&& (nI S ^^^ (-1)) = nI (B &&& (255 ^^^ S)) := by decide +kernel
theorem wr_2 : ∀ B, B < 256 → ∀ S, S < 256 → nI B ||| nI S = nI (B ||| S) := by decide +kernel
theorem wr_lt {dn : Int32} {B S : Nat} (hB : B < 256) (hS : S < 256) : wr dn B S < 256 := by
  unfold wr
  split
  · exact Nat.lt_of_le_of_lt Nat.and_le_left hB
  · exact Nat.or_lt_two_pow (n := 8) hB hS
theorem tb_bit (x i : Nat) : x / 2 ^ i % 2 = (x.testBit i).toNat := (Nat.toNat_testBit x i).symm
theorem tb_255 : ∀ i, i < 8 → (255 : Nat).testBit i = true := by decide
theorem wr_bit {dn : Int32} (hd : dn = 0 ∨ dn = 1) {B S i : Nat} (hi : i < 8) : nI (wr dn B S / 2 ^ i % 2) = if S / 2 ^ i % 2 = 1 then dn else nI (B / 2 ^ i % 2) := by
  rw [tb_bit, tb_bit, tb_bit]
  unfold wr
  rcases hd with rfl | rfl
  · rw [if_pos rfl, Nat.testBit_and, Nat.testBit_xor, tb_255 i hi]
    cases S.testBit i <;> cases B.testBit i <;> rfl
  · rw [if_neg (by decide), Nat.testBit_or]
    cases S.testBit i <;> cases B.testBit i <;> rfl
/-! the set of all locks from a place on -/
theorem or_pow : ∀ S, S < 256 → ∀ i, i < 8 → nI S ||| ((1 : Int32) <<< (nI i &&& 31)) = nI (S ||| 2 ^ i) := by decide +kernel
theorem or_pow_lt {S i : Nat} (hS : S < 256) (hi : i < 8) : S ||| 2 ^ i < 256 := Nat.or_lt_two_pow (n := 8) hS (Nat.lt_of_lt_of_le (Nat.pow_lt_pow_right (by decide) hi) (by decide))
