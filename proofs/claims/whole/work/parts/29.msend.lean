theorem sT1_at (z : Nat → Nat → Int32) : ∀ k l j : Nat, sT1 z k l j = if l = 5 ∧ j < k then 0 else z l j
  | 0, l, j => by rw [if_neg (by omega)]; rfl
  | k + 1, l, j => by
    show zu (sT1 z k) 5 k 0 l j = _
    by_cases c : l = 5
    · subst c
      by_cases d : j = k
      · subst d; rw [zu_ee, if_pos ⟨rfl, by omega⟩]
      · rw [zu_en d, sT1_at z k 5 j]
        by_cases e : j < k
        · rw [if_pos ⟨rfl, e⟩, if_pos ⟨rfl, by omega⟩]
        · rw [if_neg (fun q => e q.2), if_neg (fun q => by omega)]
    · rw [zu_o c, sT1_at z k l j, if_neg (fun q => c q.1), if_neg (fun q => c q.1)]
theorem sT2_at (z : Nat → Nat → Int32) : ∀ k l j : Nat, sT2 z k l j = if l = 11 ∧ j < k then -6 else if l = 6 ∧ j < k then sMin9 (z 6 j + 2) else z l j
  | 0, l, j => by rw [if_neg (by omega), if_neg (by omega)]; rfl
  | k + 1, l, j => by
    show zu (zu (sT2 z k) 11 k (-6)) 6 k (sMin9 (sT2 z k 6 k + 2)) l j = _
    by_cases c : l = 6
    · subst c
      rw [if_neg (by omega)]
      by_cases d : j = k
      · subst d; rw [zu_ee, sT2_at z j 6 j, if_neg (by omega), if_neg (by omega), if_pos ⟨rfl, by omega⟩]
      · rw [zu_en d, zu_o (by decide), sT2_at z k 6 j, if_neg (by omega)]
        by_cases e : j < k
        · rw [if_pos ⟨rfl, e⟩, if_pos ⟨rfl, by omega⟩]
        · rw [if_neg (fun q => e q.2), if_neg (fun q => by omega)]
    · rw [zu_o c]
      by_cases c2 : l = 11
      · subst c2
        by_cases d : j = k
        · subst d; rw [zu_ee, if_pos ⟨rfl, by omega⟩]
        · rw [zu_en d, sT2_at z k 11 j]
          by_cases e : j < k
          · rw [if_pos ⟨rfl, e⟩, if_pos ⟨rfl, by omega⟩]
          · rw [if_neg (fun q => e q.2), if_neg (fun q => c q.1), if_neg (fun q => by omega), if_neg (fun q => c q.1)]
      · rw [zu_o c2, sT2_at z k l j, if_neg (fun q => c2 q.1), if_neg (fun q => c q.1), if_neg (fun q => c2 q.1), if_neg (fun q => c q.1)]
theorem sT3_at (z : Nat → Nat → Int32) : ∀ k l j : Nat, sT3 z k l j = if l = 12 ∧ j < k then z 12 j / 2 else z l j
  | 0, l, j => by rw [if_neg (by omega)]; rfl
  | k + 1, l, j => by
    show zu (sT3 z k) 12 k (sT3 z k 12 k / 2) l j = _
    by_cases c : l = 12
    · subst c
      by_cases d : j = k
      · subst d; rw [zu_ee, sT3_at z j 12 j, if_neg (by omega), if_pos ⟨rfl, by omega⟩]
      · rw [zu_en d, sT3_at z k 12 j]
        by_cases e : j < k
        · rw [if_pos ⟨rfl, e⟩, if_pos ⟨rfl, by omega⟩]
        · rw [if_neg (fun q => e q.2), if_neg (fun q => by omega)]
    · rw [zu_o c, sT3_at z k l j, if_neg (fun q => c q.1), if_neg (fun q => c q.1)]
theorem sTerm_at (z : Nat → Nat → Int32) (l j : Nat) : sTerm0 z l j = if l = 12 ∧ j < 5 then z 12 j / 2 else if l = 11 ∧ j < 10 then -6 else if l = 6 ∧ j < 10 then sMin9 (z 6 j + 2) else if l = 5 ∧ j < 120 then 0 else z l j := by
  unfold sTerm0
  rw [sT3_at, sT2_at, sT2_at, sT1_at, sT1_at, sT1_at]
  by_cases c : l = 12
  · subst c
    simp
  · by_cases c6 : l = 6
    · subst c6; simp
    · simp [c, c6]
theorem mE1_at (g : Nat → Nat → Int32) : ∀ k l j : Nat, mE1 g k l j = if l = 0 ∧ 114 ≤ j ∧ j < 114 + k then 0 else g l j
  | 0, l, j => by rw [if_neg (by omega)]; rfl
  | k + 1, l, j => by
    show zu (mE1 g k) 0 (114 + k) 0 l j = _
    by_cases c : l = 0
    · subst c
      by_cases d : j = 114 + k
      · subst d; rw [zu_ee, if_pos ⟨rfl, by omega, by omega⟩]
      · rw [zu_en d, mE1_at g k 0 j]
        by_cases e : 114 ≤ j ∧ j < 114 + k
        · rw [if_pos ⟨rfl, e⟩, if_pos ⟨rfl, by omega, by omega⟩]
        · rw [if_neg (fun q => e q.2), if_neg (fun q => by omega)]
    · rw [zu_o c, mE1_at g k l j, if_neg (fun q => c q.1), if_neg (fun q => c q.1)]
theorem mE2_at (g : Nat → Nat → Int32) : ∀ k l j : Nat, mE2 g k l j = if l = 0 ∧ 13 ≤ j ∧ j < 13 + k then g 0 j / 2 else g l j
  | 0, l, j => by rw [if_neg (by omega)]; rfl
  | k + 1, l, j => by
    show zu (mE2 g k) 0 (13 + k) (mE2 g k 0 (13 + k) / 2) l j = _
    by_cases c : l = 0
    · subst c
      by_cases d : j = 13 + k
      · subst d; rw [zu_ee, mE2_at g k 0 (13 + k), if_neg (by omega), if_pos ⟨rfl, by omega, by omega⟩]
      · rw [zu_en d, mE2_at g k 0 j]
        by_cases e : 13 ≤ j ∧ j < 13 + k
        · rw [if_pos ⟨rfl, e⟩, if_pos ⟨rfl, by omega, by omega⟩]
        · rw [if_neg (fun q => e q.2), if_neg (fun q => by omega)]
    · rw [zu_o c, mE2_at g k l j, if_neg (fun q => c q.1), if_neg (fun q => c q.1)]
theorem mE3_at (g : Nat → Nat → Int32) : ∀ k l j : Nat, mE3 g k l j = if l = 0 ∧ 54 ≤ j ∧ (j - 54) / 6 < k ∧ (j - 54) % 6 = 4 then -6 else if l = 0 ∧ 54 ≤ j ∧ (j - 54) / 6 < k ∧ (j - 54) % 6 = 0 then mCr (g 0 j) else g l j
  | 0, l, j => by rw [if_neg (by omega), if_neg (by omega)]; rfl
  | k + 1, l, j => by
    show mLay (mLay (mE3 g k) k 4 (-6)) k 0 (mCr (mLay (mE3 g k) k 4 (-6) 0 (54 + 6 * k + 0))) l j = _
    unfold mLay
    by_cases c : l = 0
    · subst c
      by_cases d : j = 54 + 6 * k + 0
      · subst d
        rw [zu_ee, zu_en (by omega), mE3_at g k 0 _, if_neg (by omega), if_neg (by omega), if_neg (by omega), if_pos ⟨rfl, by omega, by omega, by omega⟩]
      · rw [zu_en d]
        by_cases d4 : j = 54 + 6 * k + 4
        · subst d4
          rw [zu_ee, if_pos ⟨rfl, by omega, by omega, by omega⟩]
        · rw [zu_en d4, mE3_at g k 0 j]
          by_cases e4 : 54 ≤ j ∧ (j - 54) / 6 < k ∧ (j - 54) % 6 = 4
          · rw [if_pos ⟨rfl, e4⟩, if_pos ⟨rfl, by omega, by omega, by omega⟩]
          · rw [if_neg (fun q => e4 q.2), if_neg (c := _ ∧ _ ∧ _ < k + 1 ∧ _ = 4) (fun q => by omega)]
            by_cases e0 : 54 ≤ j ∧ (j - 54) / 6 < k ∧ (j - 54) % 6 = 0
            · rw [if_pos ⟨rfl, e0⟩, if_pos ⟨rfl, by omega, by omega, by omega⟩]
            · rw [if_neg (fun q => e0 q.2), if_neg (fun q => by omega)]
    · rw [zu_o c, zu_o c, mE3_at g k l j, if_neg (fun q => c q.1), if_neg (fun q => c q.1), if_neg (fun q => c q.1), if_neg (fun q => c q.1)]
theorem mEnd_o {g : Nat → Nat → Int32} {l : Nat} (h : l ≠ 0) : mEnd g l = g l := by
  funext j
  unfold mEnd
  rw [mE3_at, if_neg (fun q => h q.1), if_neg (fun q => h q.1), mE2_at, if_neg (fun q => h q.1), mE1_at, if_neg (fun q => h q.1)]
  unfold mEnd0
  rw [zu_o h, zu_o h]
theorem mCr_c {c : Nat} (h : c ≤ 9) : mCr (nI c) = sMin9 (nI c + 2) ∧ ∃ d : Nat, d ≤ 9 ∧ sMin9 (nI c + 2) = nI d := by
  rcases (show c = 0 ∨ c = 1 ∨ c = 2 ∨ c = 3 ∨ c = 4 ∨ c = 5 ∨ c = 6 ∨ c = 7 ∨ c = 8 ∨ c = 9 by omega) with rfl | rfl | rfl | rfl | rfl | rfl | rfl | rfl | rfl | rfl
  · exact ⟨by decide, 2, by decide, by decide⟩
  · exact ⟨by decide, 3, by decide, by decide⟩
  · exact ⟨by decide, 4, by decide, by decide⟩
  · exact ⟨by decide, 5, by decide, by decide⟩
  · exact ⟨by decide, 6, by decide, by decide⟩
  · exact ⟨by decide, 7, by decide, by decide⟩
  · exact ⟨by decide, 8, by decide, by decide⟩
  · exact ⟨by decide, 9, by decide, by decide⟩
  · exact ⟨by decide, 9, by decide, by decide⟩
  · exact ⟨by decide, 9, by decide, by decide⟩
theorem mEnd0_at {g : Nat → Nat → Int32} (j : Nat) : mEnd0 g 0 j = if j = 11 then g 0 11 + 1 else if j = 12 then 0 else g 0 j := by
  unfold mEnd0
  by_cases c : j = 11
  · subst c; rw [zu_ee, if_pos rfl, zu_en (by decide)]
  · rw [zu_en c, if_neg c]
    by_cases d : j = 12
    · subst d; rw [zu_ee, if_pos rfl]
    · rw [zu_en d, if_neg d]
theorem mEnd_at {g : Nat → Nat → Int32} (j : Nat) : mEnd g 0 j = if 54 ≤ j ∧ j < 114 ∧ (j - 54) % 6 = 4 then -6 else if 54 ≤ j ∧ j < 114 ∧ (j - 54) % 6 = 0 then mCr (g 0 j) else if 13 ≤ j ∧ j < 18 then g 0 j / 2 else if 114 ≤ j ∧ j < 234 then 0 else if j = 11 then g 0 11 + 1 else if j = 12 then 0 else g 0 j := by
  unfold mEnd
  rw [mE3_at]
  by_cases a : 54 ≤ j ∧ j < 114 ∧ (j - 54) % 6 = 4
  · rw [if_pos a, if_pos ⟨rfl, by omega, by omega, by omega⟩]
  · rw [if_neg a, if_neg (fun q => a (by omega))]
    have s1 : mE2 (mE1 (mEnd0 g) 120) 5 0 j = if 13 ≤ j ∧ j < 18 then g 0 j / 2 else if 114 ≤ j ∧ j < 234 then 0 else if j = 11 then g 0 11 + 1 else if j = 12 then 0 else g 0 j := by
      rw [mE2_at]
      by_cases b : 13 ≤ j ∧ j < 18
      · rw [if_pos b, if_pos ⟨rfl, by omega, by omega⟩, mE1_at, if_neg (by omega), mEnd0_at, if_neg (by omega), if_neg (by omega)]
      · rw [if_neg b, if_neg (fun q => b (by omega)), mE1_at]
        by_cases d : 114 ≤ j ∧ j < 234
        · rw [if_pos d, if_pos ⟨rfl, by omega, by omega⟩]
        · rw [if_neg d, if_neg (fun q => d (by omega)), mEnd0_at]
    by_cases b : 54 ≤ j ∧ j < 114 ∧ (j - 54) % 6 = 0
    · rw [if_pos b, if_pos ⟨rfl, by omega, by omega, by omega⟩, s1, if_neg (by omega), if_neg (by omega), if_neg (by omega), if_neg (by omega)]
    · rw [if_neg b, if_neg (fun q => b (by omega)), s1]
theorem bx_0 : ∀ n : Nat, bx_sum (fun _ => 0) n = 0
  | 0 => rfl
  | n + 1 => by show bx_sum (fun _ => 0) n + 0 = 0; rw [bx_0 n]; rfl
theorem mS_end {z : Nat → Nat → Int32} {n : Nat} {g : Nat → Nat → Int32} (h : mS z n (g 0)) : mS (sTerm z) n (mEnd g 0) := by
  have o : ∀ l : Nat, l ≠ 14 → sTerm z l = sTerm0 z l := fun l hl => zu_o hl
  have at0 : ∀ l j : Nat, l ≠ 5 → l ≠ 6 → l ≠ 11 → l ≠ 12 → l ≠ 14 → sTerm z l j = z l j := fun l j h5 h6 h11 h12 h14 => by
    rw [o l h14, sTerm_at, if_neg (fun q => h12 q.1), if_neg (fun q => h11 q.1), if_neg (fun q => h6 q.1), if_neg (fun q => h5 q.1)]
  obtain ⟨hR, hG, t6, t12⟩ := h
  refine ⟨fun k i hv => ?_, ?_, ?_, ?_⟩
  · have hval := hR k i hv
    have hk := mv_lt hv
    rw [mEnd_at]
    rcases (show k = 0 ∨ k = 1 ∨ k = 2 ∨ k = 3 ∨ k = 4 ∨ k = 5 ∨ k = 6 ∨ k = 7 ∨ k = 8 ∨ k = 9 ∨ k = 10 ∨ k = 11 ∨ k = 12 ∨ k = 13 ∨ k = 14 by omega) with rfl | rfl | rfl | rfl | rfl | rfl | rfl | rfl | rfl | rfl | rfl | rfl | rfl | rfl | rfl <;> simp only [mv, mp] at hv hval ⊢
    · rw [if_neg (by omega), if_neg (by omega), if_neg (by omega), if_neg (by omega), if_neg (by omega), if_neg (by omega), hval, at0 0 i (by decide) (by decide) (by decide) (by decide) (by decide)]
    · rw [if_neg (by omega), if_neg (by omega), if_neg (by omega), if_neg (by omega), if_neg (by omega), if_neg (by omega), hval, at0 1 i (by decide) (by decide) (by decide) (by decide) (by decide)]
    · rw [if_neg (by omega), if_neg (by omega), if_neg (by omega), if_neg (by omega), if_neg (by omega), if_neg (by omega), hval, at0 2 i (by decide) (by decide) (by decide) (by decide) (by decide)]
    · rw [if_neg (by omega), if_neg (by omega), if_neg (by omega), if_neg (by omega), if_neg (by omega), if_neg (by omega), hval, at0 3 i (by decide) (by decide) (by decide) (by decide) (by decide)]
    · rw [if_neg (by omega), if_neg (by omega), if_neg (by omega), if_neg (by omega), if_neg (by omega), if_neg (by omega), hval, at0 4 i (by decide) (by decide) (by decide) (by decide) (by decide)]
    · rw [if_neg (by omega), if_neg (by omega), if_neg (by omega), if_pos (by omega), o 5 (by decide), sTerm_at, if_neg (by omega), if_neg (by omega), if_neg (by omega), if_pos ⟨rfl, hv⟩]
    · obtain ⟨c, hc, ec⟩ := hG.2.2.1 i hv
      rw [if_neg (by omega), if_pos (by omega), hval, o 6 (by decide), sTerm_at, if_neg (by omega), if_neg (by omega), if_pos ⟨rfl, hv⟩, ec]
      exact (mCr_c hc).1
    · rw [if_neg (by omega), if_neg (by omega), if_neg (by omega), if_neg (by omega), if_neg (by omega), if_neg (by omega), hval, at0 7 i (by decide) (by decide) (by decide) (by decide) (by decide)]
    · rw [if_neg (by omega), if_neg (by omega), if_neg (by omega), if_neg (by omega), if_neg (by omega), if_neg (by omega), hval, at0 8 i (by decide) (by decide) (by decide) (by decide) (by decide)]
    · rw [if_neg (by omega), if_neg (by omega), if_neg (by omega), if_neg (by omega), if_neg (by omega), if_neg (by omega), hval, at0 9 i (by decide) (by decide) (by decide) (by decide) (by decide)]
    · rw [if_neg (by omega), if_neg (by omega), if_neg (by omega), if_neg (by omega), if_neg (by omega), if_neg (by omega), hval, at0 10 i (by decide) (by decide) (by decide) (by decide) (by decide)]
    · rw [if_pos (by omega), o 11 (by decide), sTerm_at, if_neg (by omega), if_pos ⟨rfl, hv⟩]
    · rw [if_neg (by omega), if_neg (by omega), if_pos (by omega), hval, o 12 (by decide), sTerm_at, if_pos ⟨rfl, hv⟩]
    · rw [if_neg (by omega), if_neg (by omega), if_neg (by omega), if_neg (by omega), if_neg (by omega), if_neg (by omega), hval, at0 13 i (by decide) (by decide) (by decide) (by decide) (by decide)]
    · subst hv
      rw [if_neg (by omega), if_neg (by omega), if_neg (by omega), if_neg (by omega), if_pos trivial, hval]
      unfold sTerm
      rw [zu_ee, sTerm_at, if_neg (by omega), if_neg (by omega), if_neg (by omega), if_neg (by omega)]
  · obtain ⟨h1, h2, h3, h4, h5, h6, ⟨h71, h72, h73⟩, h8, h9⟩ := hG
    refine ⟨by rw [at0 1 0 (by decide) (by decide) (by decide) (by decide) (by decide)]; exact h1, h2, fun p hp => ?_, fun m hm => ?_, fun j hj => ⟨0, by decide, ?_⟩, fun e he => by rw [at0 3 e (by decide) (by decide) (by decide) (by decide) (by decide)]; exact h6 e he, ⟨by rw [at0 0 1 (by decide) (by decide) (by decide) (by decide) (by decide)]; exact h71, by rw [at0 0 2 (by decide) (by decide) (by decide) (by decide) (by decide)]; exact h72, by rw [at0 0 4 (by decide) (by decide) (by decide) (by decide) (by decide)]; exact h73⟩, fun p e hp he h12 => ?_, fun e he h12 => by rw [at0 4 e (by decide) (by decide) (by decide) (by decide) (by decide)]; exact h9 e he h12⟩
    · obtain ⟨c, hc, ec⟩ := h3 p hp
      rw [o 6 (by decide), sTerm_at, if_neg (by omega), if_neg (by omega), if_pos ⟨rfl, hp⟩, ec]
      exact (mCr_c hc).2
    · obtain ⟨c, hc, ec⟩ := h4 m hm
      rw [o 12 (by decide), sTerm_at, if_pos ⟨rfl, hm⟩, ec]
      exact ⟨c / 2, by omega, pk_div (a := c) (d := 2) (by omega) (by decide) (by decide)⟩
    · rw [o 5 (by decide), sTerm_at, if_neg (by omega), if_neg (by omega), if_neg (by omega), if_pos ⟨rfl, hj⟩]; rfl
    · rw [o 5 (by decide), sTerm_at, if_neg (by omega), if_neg (by omega), if_neg (by omega), if_pos ⟨rfl, by omega⟩]
  · rw [mEnd_at, if_neg (by omega), if_neg (by omega), if_neg (by omega), if_neg (by omega), if_neg (by omega), if_neg (by omega), t6]
    exact bx_congr (fun j hj => (at0 9 j (by decide) (by decide) (by decide) (by decide) (by decide)).symm)
  · rw [mEnd_at, if_neg (by omega), if_neg (by omega), if_neg (by omega), if_neg (by omega), if_neg (by omega), if_pos rfl]
    rw [bx_congr (g := fun _ => 0) (fun j hj => by rw [o 5 (by decide), sTerm_at, if_neg (by omega), if_neg (by omega), if_neg (by omega), if_pos ⟨rfl, hj⟩]), bx_0]
