/-- what always holds of a school -/
def gd (z : Nat → Nat → Int32) (n : Nat) : Prop :=
  z 1 0 = nI n ∧ n ≤ 12 ∧ (∀ p : Nat, p < 10 → ∃ c : Nat, c ≤ 9 ∧ z 6 p = nI c) ∧ (∀ m : Nat, m < 5 → ∃ g : Nat, g ≤ 9 ∧ z 12 m = nI g) ∧ (∀ j : Nat, j < 120 → ∃ u : Nat, u ≤ 9 ∧ z 5 j = nI u) ∧ (∀ e : Nat, e < 12 → ∃ v : Nat, v ≤ 99 ∧ z 3 e = nI v) ∧ ((∃ a : Nat, a ≤ 50 ∧ z 0 1 = nI a) ∧ (∃ a : Nat, a ≤ 9 ∧ z 0 2 = nI a) ∧ (∃ a : Nat, a ≤ 20 ∧ z 0 4 = nI a)) ∧ (∀ p e : Nat, p < 10 → n ≤ e → e < 12 → z 5 (p * 12 + e) = 0) ∧ (∀ e : Nat, n ≤ e → e < 12 → z 4 e = 0)
theorem gd.n {z : Nat → Nat → Int32} {n : Nat} (h : gd z n) : z 1 0 = nI n := h.1
theorem gd.n12 {z : Nat → Nat → Int32} {n : Nat} (h : gd z n) : n ≤ 12 := h.2.1
theorem bH_in {z : Nat → Nat → Int32} {n : Nat} (hn : z 1 0 = nI n) (hb : n ≤ 12) (v : Int32) : bW v 0 (nI n - 1) = bH z v := by
  unfold bW bH
  rw [hn]
  by_cases c1 : v < 0
  · rw [if_pos c1, if_pos c1]
  · rw [if_neg c1, if_neg c1]
    obtain ⟨j, hj, rfl⟩ := nI_of c1
    rcases Nat.eq_zero_or_pos n with q | q
    · subst q
      rw [if_pos (show nI 0 - 1 < nI j from Int32.lt_of_lt_of_le (by decide) (nI_pos' hj)), if_pos (nI_le (Nat.zero_le _) hj)]
    · obtain ⟨k, rfl⟩ : ∃ k, n = k + 1 := ⟨n - 1, by omega⟩
      rw [nI_pred]
      by_cases c2 : k + 1 ≤ j
      · rw [if_pos (nI_lt (by omega) hj), if_pos (nI_le c2 hj)]
      · rw [if_neg (nI_nlt (by omega) (by omega)), if_neg (fun q2 => c2 ((nI_leI (by omega) hj).mp q2))]
def sSt (z : Nat → Nat → Int32) (wt : Int32) (p : Nat) : Int32 := if wt = -6 then 0 else sStand z (cl wt) p
theorem sWt_st (z : Nat → Nat → Int32) (p e : Nat) (wt mn : Int32) : sBase z p e mn + sSt z wt p = sWt z p e wt mn := by
  unfold sSt sWt
  by_cases c : wt = -6
  · rw [if_pos c, if_pos c, Int32.add_zero]
  · rw [if_neg c, if_neg c]
theorem sMax0_alt (x : Int32) : (if x < 0 then 0 else x) = sMax0 x := by
  unfold sMax0
  by_cases c : x < 0
  · rw [if_pos c, if_neg (fun q => absurd (Int32.lt_trans c q) Int32.lt_irrefl)]
  · rw [if_neg c]
    by_cases c2 : 0 < x
    · rw [if_pos c2]
    · rw [if_neg c2]
      exact Int32.le_antisymm (Int32.not_lt.mp c2) (Int32.not_lt.mp c)
theorem sMax0_c {c : Nat} (h : c ≤ 9) : sMax0 (nI c - 2) = if nI c < 2 then 0 else nI c - 2 := by
  rcases (show c = 0 ∨ c = 1 ∨ c = 2 ∨ c = 3 ∨ c = 4 ∨ c = 5 ∨ c = 6 ∨ c = 7 ∨ c = 8 ∨ c = 9 by omega) with rfl | rfl | rfl | rfl | rfl | rfl | rfl | rfl | rfl | rfl <;> decide
theorem sUC_eq (z : Nat → Nat → Int32) (p e : Nat) : sU z (p - p % 2) e + sU z (p - p % 2 + 1) e = sUC z (p / 2) e := by
  unfold sU sUC
  rw [show (p - p % 2) * 12 + e = 2 * (p / 2) * 12 + e by omega, show (p - p % 2 + 1) * 12 + e = 2 * (p / 2) * 12 + e + 12 by omega]
theorem sUS_eq (z : Nat → Nat → Int32) (e n : Nat) : bx_sum (fun p => sU z p e) n = bx_sum (fun p => z 5 (e + 12 * p)) n := by
  congr 1
  funext p
  unfold sU
  rw [show p * 12 + e = e + 12 * p by omega]
def mVal (st v : Int32) : Int32 := if bW st 0 4 = 0 then 0 else bW v (pv_t1 (cl st)) (pv_t2 (cl st))
theorem mVal_01 (st v : Int32) : mVal st v = 0 ∨ mVal st v = 1 := by unfold mVal; split; exact Or.inl rfl; exact bW_01 _ _ _
theorem mR_u {z : Nat → Nat → Int32} {w : Nat → Int32} (h : mR z w) (p e : Nat) (hp : p < 10) (he : e < 12) : w (114 + 10 * e + p) = sU z p e := by
  have q := h 5 (p * 12 + e) (show p * 12 + e < 120 by omega)
  rw [show mp 5 (p * 12 + e) = 114 + 10 * e + p by simp only [mp]; omega] at q
  exact q
theorem bW_out5 {st : Int32} (h0 : ¬ st = 0) (h1 : ¬ st = 1) (h2 : ¬ st = 2) (h3 : ¬ st = 3) (h4 : ¬ st = 4) : bW st 0 4 = 0 := by
  rcases bW_01 st 0 4 with q | q
  · exact q
  · obtain ⟨j, hj, rfl⟩ := bW_nat (v := st) (m := 4) rfl (by decide) (fun h => absurd (q.symm.trans h) (by decide))
    rcases (show j = 0 ∨ j = 1 ∨ j = 2 ∨ j = 3 ∨ j = 4 by omega) with rfl | rfl | rfl | rfl | rfl
    · exact absurd rfl h0
    · exact absurd rfl h1
    · exact absurd rfl h2
    · exact absurd rfl h3
    · exact absurd rfl h4
