/-! ===== p25: calls that are refused ===== -/
theorem rf_neg {a : Nat} (h : a < 2 ^ 30) : (-1 : Int32) - nI a < 0 := by
  rw [Int32.lt_iff_toInt_lt, Int32.toInt_sub, nI_toInt (by omega), show (-1 : Int32).toInt = -1 from by decide, show (0 : Int32).toInt = 0 from rfl, Int.bmod_eq_of_le (by omega) (by omega)]
  omega
theorem rf_neg0 {a : Nat} (h : a < 2 ^ 30) : bW ((-1) - nI a) 0 9 = 0 := if_pos (rf_neg h)
theorem rf_neg6 : ∀ {a : Nat}, a < 5 → ¬ (-1 : Int32) - nI a = -6 := by
  intro a h
  rcases (show a = 0 ∨ a = 1 ∨ a = 2 ∨ a = 3 ∨ a = 4 by omega) with rfl | rfl | rfl | rfl | rfl <;> decide
theorem rf_negH {z : Nat → Nat → Int32} {a : Nat} (h : a < 2 ^ 30) : bH z ((-1) - nI a) = 0 := if_pos (rf_neg h)
theorem rf_big {a b : Nat} (h : b < a) (ha : a < 2 ^ 30) (lo : Int32) : bW (nI a) lo (nI b) = 0 := by
  unfold bW
  split
  · rfl
  · rw [if_pos (nI_lt h (by omega))]
theorem rf_big6 {a : Nat} (ha : a < 2 ^ 30) : ¬ nI a = -6 := fun q => absurd (q ▸ nI_pos (n := a) (by omega)) (by decide)
theorem rf_bigH {z : Nat → Nat → Int32} {n a : Nat} (hn : z 1 0 = nI n) (h : n ≤ a) (ha : a < 2 ^ 30) : bH z (nI a) = 0 := by
  unfold bH
  rw [if_neg (nI_pos (by omega)), if_pos (by rw [hn]; exact nI_le h (by omega))]
theorem rf_mm {X : Nat} (hX : X < 2 ^ 31) : bW (-(nI X) - -(nI X) / 99 * 99) 1 99 = 0 := by
  have h99 : (99 : Int32).toInt = 99 := by decide
  have e : (-(nI X) / 99).toInt = -((X / 99 : Nat) : Int) := by
    rw [Int32.toInt_div, sb_negT hX, h99, Int.neg_tdiv, Int.tdiv_eq_ediv_of_nonneg (by omega), Int.bmod_eq_of_le (by omega) (by omega)]
    omega
  have e2 : (-(nI X) / 99 * 99).toInt = -((X / 99 * 99 : Nat) : Int) := by
    rw [Int32.toInt_mul, e, h99, Int.bmod_eq_of_le (by omega) (by omega)]
    omega
  refine if_pos ?_
  rw [Int32.lt_iff_toInt_lt, Int32.toInt_sub, sb_negT hX, e2, show (1 : Int32).toInt = 1 from by decide, Int.bmod_eq_of_le (by omega) (by omega)]
  omega
section RF
variable {Z : Nat → Nat → Nat → Int32} {z : Nat → Nat → Int32} {n nx kp K : Nat} {st v kd wh ee pp wt mn pc : Int32}
theorem rf_set (h : bW st 0 4 = 0 ∨ bW v (pv_t1 (cl st)) (pv_t2 (cl st)) = 0) : tSet (Z 0) st v = -2 ∧ tSetZ Z nx kp st v = Z := by
  unfold tSet tSetZ
  by_cases c : bW st 0 4 = 0
  · exact ⟨if_pos c, if_pos c⟩
  · exact ⟨(if_neg c).trans (if_pos (h.resolve_left c)), (if_neg c).trans (if_pos (h.resolve_left c))⟩
theorem rf_add1 (h : bW kd 0 4 = 0 ∨ bW wh 1 99 = 0) : tAdd n kd wh = -2 ∧ tAddZ Z nx kp n kd wh = Z := by
  unfold tAdd tAddZ
  by_cases c : bW kd 0 4 = 0
  · exact ⟨if_pos c, if_pos c⟩
  · exact ⟨(if_neg c).trans (if_pos (h.resolve_left c)), (if_neg c).trans (if_pos (h.resolve_left c))⟩
theorem rf_add2 (h : ¬ n < 12) : tAdd n kd wh = (if bW kd 0 4 = 0 then -2 else if bW wh 1 99 = 0 then -2 else -4) ∧ tAddZ Z nx kp n kd wh = Z := by
  unfold tAdd tAddZ
  rw [if_neg h, if_neg h]
  refine ⟨rfl, ?_⟩
  split
  · rfl
  · split <;> rfl
theorem rf_worth1 (h : bH (Z 0) ee = 0) : tWorth (Z 0) ee wh = -1 ∧ tWorthZ Z nx kp ee wh = Z := ⟨if_pos h, if_pos h⟩
theorem rf_worth2 (h1 : ¬ bH (Z 0) ee = 0) (h : bW wh 1 99 = 0) : tWorth (Z 0) ee wh = -2 ∧ tWorthZ Z nx kp ee wh = Z := ⟨(if_neg h1).trans (if_pos h), (if_neg h1).trans (if_pos h)⟩
theorem rf_e1 (h : bW pp 0 9 = 0) : tErr z pp ee wt mn = -1 := if_pos h
theorem rf_e2 (h : bH z ee = 0) : tErr z pp ee wt mn = -1 := by
  unfold tErr
  by_cases c : bW pp 0 9 = 0
  · exact if_pos c
  · rw [if_neg c, if_pos h]
theorem rf_e3 (h : ¬ wt = -6 ∧ bW wt 0 9 = 0) : tErr z pp ee wt mn = -1 := by
  unfold tErr
  by_cases c : bW pp 0 9 = 0
  · exact if_pos c
  · rw [if_neg c]
    by_cases c2 : bH z ee = 0
    · exact if_pos c2
    · rw [if_neg c2, if_pos h]
theorem rf_e4 (h1 : ¬ bW pp 0 9 = 0) (h2 : ¬ bH z ee = 0) (h3 : ¬ (¬ wt = -6 ∧ bW wt 0 9 = 0)) (h4 : bW mn 1 99 = 0) : tErr z pp ee wt mn = -2 := by
  unfold tErr
  rw [if_neg h1, if_neg h2, if_neg h3, if_pos h4]
theorem rf_e5 (h1 : ¬ bW pp 0 9 = 0) (h2 : ¬ bH z ee = 0) (h3 : ¬ (¬ wt = -6 ∧ bW wt 0 9 = 0)) (h4 : wt = pp) : tErr z pp ee wt mn = -2 := by
  unfold tErr
  rw [if_neg h1, if_neg h2, if_neg h3]
  by_cases c : bW mn 1 99 = 0
  · exact if_pos c
  · rw [if_neg c, if_pos h4]
theorem rf_why (h : tErr z pp ee wt mn = v) (hv : ¬ v = 0) : tWhy z pp ee wt mn = v := by unfold tWhy; rw [h, if_neg hv]
theorem rf_wei (h : tErr z pp ee wt mn = v) (hv : ¬ v = 0) : tWeight z pp ee wt mn = v := by unfold tWeight; rw [h, if_neg hv]
theorem rf_off (h : tErr (Z 0) pp ee wt mn = v) (hv : ¬ v = 0) : tWhy (Z 0) pp ee wt mn = v ∧ tOfferZ Z nx kp pp ee wt mn = Z := ⟨rf_why h hv, by unfold tOfferZ; rw [h, if_neg hv]⟩
theorem rf_pay1 (h : bW pp 0 9 = 0) : tPay (Z 0) pp pc = -1 ∧ tPayZ Z nx kp pp pc = Z := ⟨if_pos h, if_pos h⟩
theorem rf_pay2 (h1 : ¬ bW pp 0 9 = 0) (h : bW pc 1 9999 = 0) : tPay (Z 0) pp pc = -2 ∧ tPayZ Z nx kp pp pc = Z := ⟨(if_neg h1).trans (if_pos h), (if_neg h1).trans (if_pos h)⟩
theorem rf_pay3 {so : Nat} (h : IV (Z 0) n K) (hK : K ≤ 100) (hso : so < 10) (c : ¬ 9998 < Z 0 7 so) : tPay (Z 0) (nI so) (Z 0 7 so + 1) = -5 ∧ tPayZ Z nx kp (nI so) (Z 0 7 so + 1) = Z := by
  obtain ⟨h1, h2, h3, h4, h5, ⟨F, D, R, Q, f1, f2, f3, f4, f5, f6⟩, h7, h8, h9⟩ := h
  have b := f5 so hso
  have e := (f1 so hso).1
  have c2 : F so ≤ 9998 := by
    rw [e] at c
    exact Nat.le_of_not_lt (fun q => c (nI_lt (a := 9998) q (by omega)))
  have hb : ¬ bW (Z 0 7 so + 1) 1 9999 = 0 := by
    rw [e, nI_1]; unfold bW
    rw [if_neg (show ¬ nI (F so + 1) < 1 from nI_nlt (b := 1) (by omega) (by omega)), if_neg (show ¬ (9999 : Int32) < nI (F so + 1) from nI_nlt (a := 9999) (by omega) (by decide))]; decide
  have hl : ¬ Z 0 7 so + 1 ≤ Z 0 7 so := by
    rw [e, nI_1, nI_leI (by omega) (by omega)]; omega
  have hp := tPx hso
  unfold tPay tPayZ
  rw [if_neg hp, if_neg hb, cl_nI (by omega), if_neg hl, if_neg hp, if_neg hb, if_neg hl]
  exact ⟨rfl, rfl⟩
theorem rf_ex1 (h : bH z ee = 0) : tExcuse z ee wh = -1 := if_pos h
theorem rf_ex2 (h : ¬ bH z ee = 0) (hw : wh = -1 ∨ wh = 5) : tExcuse z ee wh = -2 := by
  unfold tExcuse
  rw [if_neg h]
  rcases hw with rfl | rfl
  · rw [if_neg (by decide), if_neg (by decide), if_neg (by decide), if_neg (by decide), if_neg (by decide)]
  · rw [if_neg (by decide), if_neg (by decide), if_neg (by decide), if_neg (by decide), if_neg (by decide)]
theorem rf_pu1 (h : bW pp 0 9 = 0) : tPupil z pp wh = -1 := if_pos h
theorem rf_pu2 (h : ¬ bW pp 0 9 = 0) (hw : wh = -1 ∨ wh = 8) : tPupil z pp wh = -2 := by
  unfold tPupil
  rw [if_neg h]
  rcases hw with rfl | rfl
  · rw [if_neg (by decide), if_neg (by decide), if_neg (by decide), if_neg (by decide), if_neg (by decide), if_neg (by decide), if_neg (by decide), if_neg (by decide)]
  · rw [if_neg (by decide), if_neg (by decide), if_neg (by decide), if_neg (by decide), if_neg (by decide), if_neg (by decide), if_neg (by decide), if_neg (by decide)]
theorem rf_no1 (h : bW pp 0 9 = 0) : tNovelty z pp ee = -1 := if_pos h
theorem rf_no2 (h : bH z ee = 0) : tNovelty z pp ee = -1 := by
  unfold tNovelty
  by_cases c : bW pp 0 9 = 0
  · exact if_pos c
  · rw [if_neg c, if_pos h]
theorem rf_be1 (h : bW pp 0 9 = 0) : tBestE z n pp mn = -1 := if_pos h
theorem rf_be2 (h : ¬ bW pp 0 9 = 0) (h2 : bW mn 1 99 = 0) : tBestE z n pp mn = -2 := (if_neg h).trans (if_pos h2)
theorem rf_bw1 (h : bW pp 0 9 = 0) : tBestW z pp ee mn = -1 := if_pos h
theorem rf_bw2 (h : bH z ee = 0) : tBestW z pp ee mn = -1 := by
  unfold tBestW
  by_cases c : bW pp 0 9 = 0
  · exact if_pos c
  · rw [if_neg c, if_pos h]
theorem rf_bw3 (h : ¬ bW pp 0 9 = 0) (h1 : ¬ bH z ee = 0) (h2 : bW mn 1 99 = 0) : tBestW z pp ee mn = -2 := (if_neg h).trans ((if_neg h1).trans (if_pos h2))
theorem rf_mo1 (h : bW pp 0 9 = 0) : tMost z pp ee = -1 := if_pos h
theorem rf_mo2 (h : bH z ee = 0) : tMost z pp ee = -1 := by
  unfold tMost
  by_cases c : bW pp 0 9 = 0
  · exact if_pos c
  · rw [if_neg c, if_pos h]
theorem rf_save (h : bW v 0 1 = 0) : tSave (Z 0) v = -2 ∧ tSaveZ Z v = Z := ⟨if_pos h, if_pos h⟩
theorem rf_rest (h : bW v 0 1 = 0) : tRestore Z nx kp v = -2 ∧ tRestoreZ Z nx kp v = Z := ⟨if_pos h, if_pos h⟩
theorem rf_flt : (tFault Z 0).1 = 0 := by
  unfold tFault cFlt
  rfl
theorem rf_read : tRead Z nx kp 0 = -3 ∧ tReadZ Z nx kp 0 = va_up Z 10 (tFault Z 0).2 := by
  unfold tRead tReadZ
  rw [rf_flt]
  exact ⟨if_neg (by decide), if_neg (by decide)⟩
/-- nothing has changed but the reader and the pad's length, which is 0 -/
def RS (Z Z1 : Nat → Nat → Nat → Int32) : Prop := (∀ i : Nat, i ≠ 9 → i ≠ 10 → Z1 i = Z i) ∧ Z1 9 1 0 = 0
theorem rf_RS (Z : Nat → Nat → Nat → Int32) (r r2 : Nat → Nat → Int32) : RS Z (va_up (va_up (va_up Z 9 (zu (Z 9) 1 0 0)) 10 r) 10 r2) := by
  refine ⟨fun i h9 h10 => ?_, ?_⟩
  · rw [va_up_ne _ _ h10, va_up_ne _ _ h10, va_up_ne _ _ h9]
  · rw [va_up_ne _ _ (by decide), va_up_ne _ _ (by decide), va_up_e, zu_ee]
end RF
