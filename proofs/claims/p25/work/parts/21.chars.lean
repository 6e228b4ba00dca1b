/-! characters of a number -/
def kC (x : Int64) (i : Nat) : Nat := x.toUInt64.toNat / 2 ^ (8 * i) % 256
theorem kC_lt (x : Int64) (i : Nat) : kC x i < 256 := Nat.mod_lt _ (by decide)
theorem kC_sh (x : Int64) {i : Nat} (hi : i < 8) : (x.toUInt64 >>> ((nI (8 * i)).toInt64.toUInt64 &&& Int64.toUInt64 63)).toNat = x.toUInt64.toNat / 2 ^ (8 * i) := by
  rcases (show i = 0 ∨ i = 1 ∨ i = 2 ∨ i = 3 ∨ i = 4 ∨ i = 5 ∨ i = 6 ∨ i = 7 by omega) with rfl | rfl | rfl | rfl | rfl | rfl | rfl | rfl <;>
    (rw [UInt64.toNat_shiftRight, Nat.shiftRight_eq_div_pow]; rfl)
theorem kC_at (x : Int64) {i : Nat} (hi : i < 8) : ((x.toUInt64 >>> ((nI (8 * i)).toInt64.toUInt64 &&& Int64.toUInt64 63)).toInt64.toInt32 &&& 255) = nI (kC x i) := by
  rw [pk_and _ 8 (by rfl)]
  congr 1
  generalize hy : (x.toUInt64 >>> ((nI (8 * i)).toInt64.toUInt64 &&& Int64.toUInt64 63)) = y
  have e1 : y.toNat = x.toUInt64.toNat / 2 ^ (8 * i) := by rw [← hy]; exact kC_sh x hi
  have e2 : y.toInt64.toInt32.toBitVec.toNat = y.toNat % 2 ^ 32 := by
    show (y.toBitVec.signExtend 32).toNat = _
    rw [BitVec.signExtend_eq_setWidth_of_le _ (by decide), BitVec.toNat_setWidth]
    rfl
  rw [e2, e1, kC]
  omega
theorem kC_z (x : Int64) {i : Nat} (hi : i < 8) : (lg_cmp (x.toUInt64 >>> ((nI (8 * i)).toInt64.toUInt64 &&& Int64.toUInt64 63)).toInt64 0 = 0) ↔ x.toUInt64.toNat / 2 ^ (8 * i) = 0 := by
  rw [← kC_sh x hi]
  generalize (x.toUInt64 >>> ((nI (8 * i)).toInt64.toUInt64 &&& Int64.toUInt64 63)) = y
  have e : y.toInt64 = 0 ↔ y.toNat = 0 := by
    constructor
    · intro h
      have h2 : y.toInt64.toUInt64 = (0 : Int64).toUInt64 := by rw [h]
      rw [UInt64.toUInt64_toInt64] at h2
      rw [h2]; rfl
    · intro h
      have h2 : y = 0 := UInt64.toNat_inj.mp h
      rw [h2]; rfl
  rw [← e]
  unfold lg_cmp
  by_cases h1 : y.toInt64 > 0
  · rw [if_pos h1]
    exact ⟨fun q => absurd q (by decide), fun q => by rw [q] at h1; exact absurd h1 (by decide)⟩
  · rw [if_neg h1]
    by_cases h2 : y.toInt64 = 0
    · rw [if_pos h2]
      exact ⟨fun _ => h2, fun _ => rfl⟩
    · rw [if_neg h2]
      exact ⟨fun q => absurd q (by decide), fun q => absurd q h2⟩
/-- how many characters a number gives, from the place i on; 0 if it is no such number -/
def sCh (x : Int64) : Nat → Nat → Nat
  | 0, i => i
  | m + 1, i => if kC x i = 0 then (if x.toUInt64.toNat / 2 ^ (8 * i) = 0 then i else 0) else if bW (nI (kC x i)) 33 126 = 0 then 0 else sCh x m (i + 1)
theorem sCh_le (x : Int64) : ∀ (m i : Nat), sCh x m i ≤ m + i
  | 0, i => by simp [sCh]
  | m + 1, i => by
    unfold sCh
    have h := sCh_le x m (i + 1)
    split
    · split <;> omega
    · split <;> omega
/-- the pad with m characters more: the places m - 1 down to 0 -/
def sApp (x : Int64) (z : Nat → Nat → Int32) (n : Nat) : Nat → Nat → Nat → Int32
  | 0 => z
  | k + 1 => sApp x (zu (zu z 0 n (nI (kC x k))) 1 0 (nI (n + 1))) (n + 1) k
