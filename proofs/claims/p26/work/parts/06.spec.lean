/-! what both sides mean, in whole numbers -/
abbrev Sh : Type := Nat → Int → Int
def it {α : Type} (f : Nat → α → α) (a : α) : Nat → α
  | 0 => a
  | j + 1 => f j (it f a j)
/-- a bit of a set -/
def mem (b g : Int) : Prop := b / 2 ^ g.toNat % 2 = 1
def memb (b g : Int) : Bool := decide (b / 2 ^ g.toNat % 2 = 1)
theorem memb_iff {b g : Int} : memb b g = true ↔ mem b g := by unfold memb mem; exact decide_eq_true_iff
/-- the set of those below j with p -/
def bsum (p : Nat → Bool) : Nat → Int
  | 0 => 0
  | j + 1 => bsum p j + if p j then 2 ^ j else 0
theorem bsum_nn (p : Nat → Bool) : ∀ j, 0 ≤ bsum p j ∧ bsum p j < 2 ^ j
  | 0 => by simp [bsum]
  | j + 1 => by
    have := bsum_nn p j
    have e : (2 : Int) ^ (j + 1) = 2 * 2 ^ j := by rw [Int.pow_succ]; omega
    unfold bsum
    split <;> omega
theorem bsum_mem (p : Nat → Bool) : ∀ (j g : Nat), mem (bsum p j) g ↔ (g < j ∧ p g = true)
  | 0, g => by
    unfold mem bsum
    simp
  | j + 1, g => by
    have hb := bsum_nn p j
    have ih := bsum_mem p j g
    have pj : (0 : Int) < 2 ^ j := Int.pow_pos (by decide)
    have pg : (0 : Int) < 2 ^ g := Int.pow_pos (by decide)
    unfold mem at ih ⊢
    rw [Int.toNat_natCast] at ih ⊢
    unfold bsum
    by_cases hgj : g < j
    · have e : (2 : Int) ^ j = 2 ^ g * (2 * 2 ^ (j - g - 1)) := by
        rw [show j = g + (1 + (j - g - 1)) by omega, Int.pow_add, Int.pow_add]
        simp
      split
      · rename_i hp
        rw [e, Int.add_mul_ediv_left _ _ (by omega)]
        rw [Int.add_mul_emod_self_left]
        constructor
        · intro q; exact ⟨by omega, (ih.mp q).2⟩
        · intro q; exact ih.mpr ⟨hgj, q.2⟩
      · rw [Int.add_zero]
        constructor
        · intro q; exact ⟨by omega, (ih.mp q).2⟩
        · intro q; exact ih.mpr ⟨hgj, q.2⟩
    · by_cases e : g = j
      · subst e
        have h0 : bsum p g / 2 ^ g = 0 := Int.ediv_eq_zero_of_lt hb.1 hb.2
        split
        · rename_i hp
          rw [show bsum p g + 2 ^ g = bsum p g + 2 ^ g * 1 by omega, Int.add_mul_ediv_left _ _ (by omega), h0]
          simp [hp]
        · rename_i hp
          rw [Int.add_zero, h0]
          simp [hp]
      · have hle : (2 : Int) ^ j + 2 ^ j ≤ 2 ^ g := by
          have : (2 : Int) ^ g = 2 ^ j * (2 * 2 ^ (g - j - 1)) := by
            rw [show g = j + (1 + (g - j - 1)) by omega, Int.pow_add, Int.pow_add]
            simp
          have p2 : (0 : Int) < 2 ^ (g - j - 1) := Int.pow_pos (by decide)
          rw [this]
          have : (2 : Int) ^ j * 2 ≤ 2 ^ j * (2 * 2 ^ (g - j - 1)) := Int.mul_le_mul_of_nonneg_left (by omega) (by omega)
          omega
        have h0 : (bsum p j + if p j = true then (2 : Int) ^ j else 0) / 2 ^ g = 0 := by
          apply Int.ediv_eq_zero_of_lt
          · split <;> omega
          · split <;> omega
        rw [h0]
        simp
        omega
theorem bsum_congr {p q : Nat → Bool} : ∀ (j : Nat), (∀ g, g < j → p g = q g) → bsum p j = bsum q j
  | 0, _ => rfl
  | j + 1, h => by
    unfold bsum
    rw [bsum_congr j (fun g hg => h g (by omega)), h j (by omega)]
/-- by numbers: bits of Int32 -/
theorem i32_nat {x : Int32} {n : Nat} (h : x.toInt = n) : x.toBitVec = BitVec.ofNat 32 n := by
  have h1 : Int32.ofInt (n : Int) = x := by rw [← h, Int32.ofInt_toInt]
  rw [← h1, Int32.toBitVec_ofInt]
  simp
theorem i32_bv (n : Nat) (h : n < 2 ^ 31) : (Int32.ofInt (n : Int)).toBitVec.toNat = n := by
  rw [Int32.toBitVec_ofInt, BitVec.ofInt_natCast, BitVec.toNat_ofNat, Nat.mod_eq_of_lt (by omega)]
theorem i32_int {x : Int32} {n : Nat} (h : x.toBitVec.toNat = n) (hn : n < 2 ^ 31) : x.toInt = n := by
  show x.toBitVec.toInt = n
  rw [BitVec.toInt_eq_toNat_of_lt (by rw [h]; omega), h]
theorem band_nat {a b : Nat} (ha : a < 2 ^ 31) (hb : b < 2 ^ 31) : band a b = ((a &&& b : Nat) : Int) := by
  unfold band
  apply i32_int
  · rw [Int32.toBitVec_and, BitVec.toNat_and, i32_bv a ha, i32_bv b hb]
  · exact Nat.and_lt_two_pow _ hb
theorem bor_nat {a b : Nat} (ha : a < 2 ^ 31) (hb : b < 2 ^ 31) : bor a b = ((a ||| b : Nat) : Int) := by
  unfold bor
  apply i32_int
  · rw [Int32.toBitVec_or, BitVec.toNat_or, i32_bv a ha, i32_bv b hb]
  · exact Nat.or_lt_two_pow ha hb
theorem bxor_nat {a b : Nat} (ha : a < 2 ^ 31) (hb : b < 2 ^ 31) : bxor a b = ((a ^^^ b : Nat) : Int) := by
  unfold bxor
  apply i32_int
  · rw [Int32.toBitVec_xor, BitVec.toNat_xor, i32_bv a ha, i32_bv b hb]
  · exact Nat.xor_lt_two_pow ha hb
theorem bshl_one {j : Nat} (h : j ≤ 30) : bshl 1 j = 2 ^ j := by
  have : ∀ j : Fin 31, bshl 1 (j : Nat) = 2 ^ (j : Nat) := by decide +kernel
  exact this ⟨j, by omega⟩
theorem shr_amt (j : Nat) (h : j ≤ 30) : ((Int32.ofInt (j : Int) &&& 31).toBitVec.smod 32).toNat = j := by
  have : ∀ j : Fin 31, ((Int32.ofInt ((j : Nat) : Int) &&& 31).toBitVec.smod 32).toNat = j := by decide +kernel
  exact this ⟨j, by omega⟩
theorem bshr_nat {a j : Nat} (ha : a < 2 ^ 31) (hj : j ≤ 30) : bshr a j = ((a >>> j : Nat) : Int) := by
  unfold bshr
  have e1 := shr_amt j hj
  show (Int32.ofInt (a : Int) >>> (Int32.ofInt (j : Int) &&& 31)).toBitVec.toInt = _
  rw [Int32.toBitVec_shiftRight]
  show (BitVec.sshiftRight (Int32.ofInt (a : Int)).toBitVec ((Int32.ofInt (j : Int) &&& 31).toBitVec.smod 32).toNat).toInt = _
  rw [e1, BitVec.toInt_sshiftRight]
  have e3 : (Int32.ofInt (a : Int)).toBitVec.toInt = (a : Int) := rg_toInt (a := (a : Int)) (by omega)
  rw [e3]
  rfl
