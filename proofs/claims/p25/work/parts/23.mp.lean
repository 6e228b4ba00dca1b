/-! ===== the reference: one row w of 234 numbers; where it keeps what a school's table z holds ===== -/
def mp (k i : Nat) : Nat := match k with
  | 0 => i | 1 => 5 | 2 => 18 + 3 * i | 3 => 18 + 3 * i + 1 | 4 => 18 + 3 * i + 2 | 5 => 114 + 10 * (i % 12) + i / 12 | 6 => 54 + 6 * i | 7 => 54 + 6 * i + 1 | 8 => 54 + 6 * i + 5 | 9 => 54 + 6 * i + 2 | 10 => 54 + 6 * i + 3 | 11 => 54 + 6 * i + 4 | 12 => 13 + i | 13 => 6 + i | _ => 11
def mv (k i : Nat) : Prop := match k with
  | 0 => i < 5 | 1 => i = 0 | 2 => i < 12 | 3 => i < 12 | 4 => i < 12 | 5 => i < 120 | 6 => i < 10 | 7 => i < 10 | 8 => i < 10 | 9 => i < 10 | 10 => i < 10 | 11 => i < 10 | 12 => i < 5 | 13 => 1 ≤ i ∧ i ≤ 4 | 14 => i = 0 | _ => False
theorem mv_lt {k i : Nat} (h : mv k i) : k < 15 := by
  by_cases q : k < 15
  · exact q
  · exfalso
    unfold mv at h
    split at h <;> first | omega | exact h
theorem mp_inj {k i l j : Nat} (h1 : mv k i) (h2 : mv l j) (h : mp k i = mp l j) : k = l ∧ i = j := by
  have hk := mv_lt h1
  have hl := mv_lt h2
  rcases (show k = 0 ∨ k = 1 ∨ k = 2 ∨ k = 3 ∨ k = 4 ∨ k = 5 ∨ k = 6 ∨ k = 7 ∨ k = 8 ∨ k = 9 ∨ k = 10 ∨ k = 11 ∨ k = 12 ∨ k = 13 ∨ k = 14 by omega) with rfl | rfl | rfl | rfl | rfl | rfl | rfl | rfl | rfl | rfl | rfl | rfl | rfl | rfl | rfl <;>
  rcases (show l = 0 ∨ l = 1 ∨ l = 2 ∨ l = 3 ∨ l = 4 ∨ l = 5 ∨ l = 6 ∨ l = 7 ∨ l = 8 ∨ l = 9 ∨ l = 10 ∨ l = 11 ∨ l = 12 ∨ l = 13 ∨ l = 14 by omega) with rfl | rfl | rfl | rfl | rfl | rfl | rfl | rfl | rfl | rfl | rfl | rfl | rfl | rfl | rfl <;>
  simp only [mv, mp] at h1 h2 h <;> omega
theorem mp_lt {k i : Nat} (h : mv k i) : mp k i < 234 := by
  have hk := mv_lt h
  rcases (show k = 0 ∨ k = 1 ∨ k = 2 ∨ k = 3 ∨ k = 4 ∨ k = 5 ∨ k = 6 ∨ k = 7 ∨ k = 8 ∨ k = 9 ∨ k = 10 ∨ k = 11 ∨ k = 12 ∨ k = 13 ∨ k = 14 by omega) with rfl | rfl | rfl | rfl | rfl | rfl | rfl | rfl | rfl | rfl | rfl | rfl | rfl | rfl | rfl <;>
  simp only [mv, mp] at h ⊢ <;> omega
def mR (z : Nat → Nat → Int32) (w : Nat → Int32) : Prop := ∀ k i : Nat, mv k i → w (mp k i) = z k i
theorem mR.up {z : Nat → Nat → Int32} {w : Nat → Int32} (h : mR z w) {k i : Nat} (hv : mv k i) (v : Int32) : mR (zu z k i v) (va_up w (mp k i) v) := by
  intro l j hl
  by_cases e : mp l j = mp k i
  · obtain ⟨rfl, rfl⟩ := mp_inj hl hv e
    simp [va_up, zu]
  · rw [va_up_ne _ _ e, h l j hl]
    by_cases e1 : l = k
    · subst e1
      rw [zu_en (fun q => e (by rw [q]))]
    · rw [zu_o e1]
/-- a place that the table does not speak of -/
theorem mR.off {z : Nat → Nat → Int32} {w : Nat → Int32} (h : mR z w) {n : Nat} (hn : n = 6 ∨ n = 12) (v : Int32) : mR z (va_up w n v) := by
  intro l j hl
  rw [va_up_ne _ _ ?_, h l j hl]
  intro q
  have hk := mv_lt hl
  rcases (show l = 0 ∨ l = 1 ∨ l = 2 ∨ l = 3 ∨ l = 4 ∨ l = 5 ∨ l = 6 ∨ l = 7 ∨ l = 8 ∨ l = 9 ∨ l = 10 ∨ l = 11 ∨ l = 12 ∨ l = 13 ∨ l = 14 by omega) with rfl | rfl | rfl | rfl | rfl | rfl | rfl | rfl | rfl | rfl | rfl | rfl | rfl | rfl | rfl <;>
  simp only [mv, mp] at hl q <;> omega
