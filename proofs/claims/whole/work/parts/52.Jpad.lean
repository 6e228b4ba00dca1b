theorem cFlt_congr {ch ch2 : Nat → Int32} : ∀ (m i : Nat) (r : Nat → Nat → Int32), (∀ j : Nat, j < m + i → ch j = ch2 j) → cFlt ch m i r = cFlt ch2 m i r
  | 0, _, _, _ => rfl
  | m + 1, i, r, h => by
    have e := h i (by omega)
    simp only [cFlt, e]
    split
    · rfl
    · exact cFlt_congr m (i + 1) _ (fun j hj => h j (by omega))
theorem cRd_congr {ch ch2 : Nat → Int32} : ∀ (m i : Nat) (z r : Nat → Nat → Int32) (t : Int32), (∀ j : Nat, j < m + i → ch j = ch2 j) → cRd ch m i z r t = cRd ch2 m i z r t
  | 0, _, _, _, _, _ => rfl
  | m + 1, i, z, r, t, h => by
    have e := h i (by omega)
    simp only [cRd, e]
    split
    · exact cRd_congr m (i + 1) _ _ _ (fun j hj => h j (by omega))
    · exact cRd_congr m (i + 1) _ _ _ (fun j hj => h j (by omega))
theorem app_both (X : Int64) : ∀ (k n : Nat) (z g : Nat → Nat → Int32), z 1 0 = nI n → g 6 0 = nI n → (∀ j : Nat, j < n → g 5 j = z 0 j) → sApp X z n k 1 0 = nI (n + k) ∧ mApp X g n k 6 0 = nI (n + k) ∧ (∀ j : Nat, j < n + k → mApp X g n k 5 j = sApp X z n k 0 j) ∧ ∀ l : Nat, l < 5 → mApp X g n k l = g l
  | 0, n, z, g, h1, h2, h3 => ⟨h1, h2, h3, fun _ _ => rfl⟩
  | k + 1, n, z, g, h1, h2, h3 => by
    have ih := app_both X k (n + 1) (zu (zu z 0 n (nI (kC X k))) 1 0 (nI (n + 1))) (zu (zu g 5 n (nI (kC X k))) 6 0 (nI (n + 1))) zu_ee zu_ee (fun j hj => by
      rw [zu_o (show 5 ≠ 6 by decide), zu_o (show 0 ≠ 1 by decide)]
      by_cases c : j = n
      · subst c; rw [zu_ee, zu_ee]
      · rw [zu_en c, zu_en c]; exact h3 j (by omega))
    rw [show n + (k + 1) = n + 1 + k by omega]
    refine ⟨ih.1, ih.2.1, ih.2.2.1, fun l hl => (ih.2.2.2 l hl).trans ?_⟩
    rw [zu_o (by omega), zu_o (by omega)]
section JPAD
variable {Z : Nat → Nat → Nat → Int32} {n nx kp pl : Nat}
theorem J_put {X : Int64} (h : JI Z n nx kp pl) : tPutZ Z X pl 11 = Z 11 ∧ ∃ n' nx' kp' pl' : Nat, JI (va_up (tPutZ Z X pl) 11 (mPut X (Z 11) pl)) n' nx' kp' pl' := by
  unfold tPutZ mPut
  by_cases c : sCh X 8 0 = 0
  · rw [if_pos c, if_pos c, va_up_i]; exact ⟨rfl, n, nx, kp, pl, h⟩
  · rw [if_neg c, if_neg c]
    by_cases d : pl + sCh X 8 0 ≤ 60
    · rw [if_pos d, if_pos d]
      obtain ⟨e1, e2, e3, e4⟩ := h.2.2.2.2
      obtain ⟨g1, g2, g3, g4⟩ := app_both X (sCh X 8 0) pl (Z 9) (Z 11) e1 e2 e4
      refine ⟨va_up_ne _ _ (by decide), n, nx, kp, pl + sCh X 8 0, J_pad h (fun i hi => ?_) ?_ (fun l hl => ?_) ⟨?_, ?_, d, fun j hj => ?_⟩⟩
      · rw [va_up_ne _ _ (by omega), va_up_ne _ _ (by omega)]
      · rw [va_up_ne _ _ (by decide), va_up_ne _ _ (by decide)]
      · rw [va_up_e]; exact g4 l hl
      · rw [va_up_ne _ _ (by decide), va_up_e]; exact g1
      · rw [va_up_e]; exact g2
      · rw [va_up_e, va_up_ne _ _ (by decide), va_up_e]; exact g3 j hj
    · rw [if_neg d, if_neg d, va_up_i]; exact ⟨rfl, n, nx, kp, pl, h⟩
theorem J_wipe (h : JI Z n nx kp pl) : JI (va_up (va_up Z 9 (zu (Z 9) 1 0 0)) 11 (zu (Z 11) 6 0 0)) n nx kp 0 := by
  refine J_pad h (fun i hi => ?_) ?_ (fun l hl => ?_) ⟨?_, ?_, by decide, fun j hj => absurd hj (Nat.not_lt_zero j)⟩
  · rw [va_up_ne _ _ (by omega), va_up_ne _ _ (by omega)]
  · rw [va_up_ne _ _ (by decide), va_up_ne _ _ (by decide)]
  · rw [va_up_e, zu_o (by omega)]
  · rw [va_up_ne _ _ (by decide), va_up_e, zu_ee]; rfl
  · rw [va_up_e, zu_ee]; rfl
theorem J_ch (h : JI Z n nx kp pl) (r : Nat → Nat → Int32) : cFlt (Z 11 5) pl 0 r = cFlt (Z 9 0) pl 0 r := cFlt_congr pl 0 r (fun j hj => h.2.2.2.2.2.2.2 j (by omega))
theorem J_fault (h : JI Z n nx kp pl) {g2 : Nat → Nat → Int32} (hg : ∀ l : Nat, l < 7 → g2 l = Z 11 l) : JI (va_up (va_up Z 10 (tFault Z pl).2) 11 g2) n nx kp pl := by
  refine J_same h (fun i hi => ?_) ?_ (fun l hl => ?_)
  · rw [va_up_ne _ _ (by omega), va_up_ne _ _ (by omega)]
  · rw [va_up_ne _ _ (by decide), va_up_ne _ _ (by decide)]
  · rw [va_up_e]; exact hg l hl
theorem fault_eq (h : JI Z n nx kp pl) : (cFlt (Z 11 5) pl 0 (rBegin (Z 10))).1 = (tFault Z pl).1 := by rw [J_ch h]; rfl
theorem tReadZ_11 (h : JI Z n nx kp pl) : tReadZ Z nx kp pl 11 = Z 11 := by
  unfold tReadZ
  split
  · rw [va_up_ne _ _ (by decide), va_up_ne _ _ (by decide), va_up_ne _ _ (by decide)]
    unfold tReadK
    rw [sKeep_11 h.2.1.1, va_up_ne _ _ (by decide)]
  · rw [va_up_ne _ _ (by decide)]
theorem J_read (h : JI Z n nx kp pl) {Z2 : Nat → Nat → Nat → Int32} {v : Int32} (hm : mRead (tReadZ Z nx kp pl) (Z 11) (Z 11 5) pl (rBegin (tReadK Z nx kp pl 10)) (Z 0) n kp v Z2) : v = tRead Z nx kp pl ∧ ∃ n' nx' kp' pl' : Nat, JI Z2 n' nx' kp' pl' := by
  obtain ⟨g2, rfl, hm⟩ := hm
  have hF : (cFlt (Z 11 5) pl 0 (rBegin (tReadK Z nx kp pl 10))).1 = (tFault Z pl).1 := by
    rw [J_ch h]
    exact cFlt_same _ _ _ _ _ (rSame_begin _ _)
  rw [hF] at hm
  have hD : cRd (Z 11 5) pl 0 (Z 0) (rBegin (tReadK Z nx kp pl 10)) 0 = tReadD Z nx kp pl := cRd_congr pl 0 _ _ _ (fun j hj => h.2.2.2.2.2.2.2 j (by omega))
  rw [hD] at hm
  unfold tRead tReadZ
  rcases hm with ⟨c, hv, hg⟩ | ⟨c, hv, hz, h6, hr⟩
  · rw [if_neg c, if_neg c]
    exact ⟨hv, n, nx, kp, pl, J_fault h hg⟩
  · rw [if_pos c, if_pos c]
    refine ⟨hv, n, (nx + 1) % 6, min 6 (kp + 1), 0, ?_⟩
    have hb : JI (va_up Z 10 (tFault Z pl).2) n nx kp pl := J_same h (fun i hi => va_up_ne _ _ (by omega)) (va_up_ne _ _ (by decide)) (fun l hl => by rw [va_up_ne _ _ (by decide)])
    refine J_keep (z2 := (tReadD Z nx kp pl).1) hb ?_ (fun i hi => ?_) ?_ ?_ (fun l h1 hl6 => ?_) ⟨?_, ?_, by decide, fun j hj => absurd hj (Nat.not_lt_zero j)⟩
    · rw [va_up_ne _ _ (by decide), va_up_ne _ _ (by decide), va_up_ne _ _ (by decide), va_up_e]
    · rw [va_up_ne _ _ (by omega), va_up_ne _ _ (by omega), va_up_ne _ _ (by omega), va_up_ne _ _ (by omega)]; rfl
    · rw [va_up_ne _ _ (by decide), va_up_ne _ _ (by decide), va_up_ne _ _ (by decide), va_up_ne _ _ (by decide)]; rfl
    · rw [va_up_e]; exact hz
    · rw [va_up_e, va_up_ne _ _ (by decide)]; exact hr l h1 hl6
    · rw [va_up_ne _ _ (by decide), va_up_e, zu_ee]; rfl
    · rw [va_up_e]; exact h6
end JPAD
