/-- what a change of the reference makes of its table g: nothing, or the state before is kept and row 0 holds z2 -/
def mChg (ok : Prop) (g : Nat → Nat → Int32) (sn : Nat) (z2 : Nat → Nat → Int32) (n2 : Nat) (g2 : Nat → Nat → Int32) : Prop := (¬ ok ∧ g2 = g) ∨ (ok ∧ mS z2 n2 (g2 0) ∧ ∀ l : Nat, l ≠ 0 → g2 l = mRec g sn l)
def mE (Z : Nat → Nat → Nat → Int32) (v : Int32) (P : (Nat → Nat → Int32) → Prop) : Int32 → (Nat → Nat → Nat → Int32) → Prop := fun r Z2 => r = v ∧ ∃ g2, Z2 = va_up Z 11 g2 ∧ P g2
theorem mVal_pos {st v : Int32} (h : ¬ mVal st v = 0) : ∃ k : Nat, k ≤ 4 ∧ st = nI k ∧ ¬ bW v (pv_t1 k) (pv_t2 k) = 0 ∧ ¬ bW st 0 4 = 0 := by
  unfold mVal at h
  by_cases c : bW st 0 4 = 0
  · rw [if_pos c] at h; exact absurd rfl h
  · rw [if_neg c] at h
    obtain ⟨k, hk, rfl⟩ := bW_nat (m := 4) rfl (by decide) c
    rw [cl_nI (by omega)] at h
    exact ⟨k, hk, rfl, h, c⟩
theorem mVal_0 {st v : Int32} (h : mVal st v = 0) (z : Nat → Nat → Int32) : tSet z st v = -2 := by
  unfold mVal at h
  unfold tSet
  by_cases c : bW st 0 4 = 0
  · rw [if_pos c]
  · rw [if_neg c] at h ⊢
    rw [if_pos h]
theorem tErr_e {z : Nat → Nat → Int32} {p e n : Nat} {wt mn : Int32} (hn : z 1 0 = nI n) (hn12 : n ≤ 12) (h : tErr z (nI p) (nI e) wt mn = 0) (he : e < 2 ^ 31 := by omega) : e < n := by
  unfold tErr at h
  by_cases c1 : bW (nI p) 0 9 = 0
  · rw [if_pos c1] at h; exact absurd h (by decide)
  rw [if_neg c1] at h
  by_cases c2 : bH z (nI e) = 0
  · rw [if_pos c2] at h; exact absurd h (by decide)
  obtain ⟨j, hj, ej⟩ := bH_nat hn (by omega) c2
  rw [(nI_eq he (by omega)).mp ej]
  exact hj
