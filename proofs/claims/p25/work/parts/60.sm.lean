/-! ===== p25: two tables that agree at every place that counts; all that is seen of a state, as one number ===== -/
theorem bx_congr {f g : Nat → Int32} : ∀ {n : Nat}, (∀ j : Nat, j < n → f j = g j) → bx_sum f n = bx_sum g n
  | 0, _ => rfl
  | n + 1, h => by
    show bx_sum f n + f n = bx_sum g n + g n
    rw [bx_congr (fun j hj => h j (by omega)), h n (by omega)]
theorem va_cpy0 {f g : Nat → Int32} {n i : Nat} (h : i < n) : va_cpy f g 0 0 n i = f i := by
  unfold va_cpy
  rw [if_pos ⟨by omega, by omega⟩, Nat.sub_zero, Nat.zero_add]
theorem sBec_at {z w : Nat → Nat → Int32} {k i : Nat} (h : mv k i) : sBec z w k i = w k i := by
  have hk := mv_lt h
  rcases (show k = 0 ∨ k = 1 ∨ k = 2 ∨ k = 3 ∨ k = 4 ∨ k = 5 ∨ k = 6 ∨ k = 7 ∨ k = 8 ∨ k = 9 ∨ k = 10 ∨ k = 11 ∨ k = 12 ∨ k = 13 ∨ k = 14 by omega) with rfl | rfl | rfl | rfl | rfl | rfl | rfl | rfl | rfl | rfl | rfl | rfl | rfl | rfl | rfl
  · exact va_cpy0 (n := 5) h
  · have h : i = 0 := h; subst h; rfl
  · exact va_cpy0 (n := 12) h
  · exact va_cpy0 (n := 12) h
  · exact va_cpy0 (n := 12) h
  · exact va_cpy0 (n := 120) h
  · exact va_cpy0 (n := 10) h
  · exact va_cpy0 (n := 10) h
  · exact va_cpy0 (n := 10) h
  · exact va_cpy0 (n := 10) h
  · exact va_cpy0 (n := 10) h
  · exact va_cpy0 (n := 10) h
  · exact va_cpy0 (n := 5) h
  · have h : 1 ≤ i ∧ i ≤ 4 := h; exact va_cpy0 (n := 5) (by omega)
  · have h : i = 0 := h; subst h; rfl
def sm (z w : Nat → Nat → Int32) : Prop := ∀ k i : Nat, mv k i → z k i = w k i
theorem sSet_congr {f g : Nat → Int32} : ∀ {n : Nat}, (∀ j : Nat, j < n → f j = g j) → sSet f n = sSet g n
  | 0, _ => rfl
  | n + 1, h => by
    show (if 0 < f n then sSet f n ||| (1 <<< (nI n &&& 31)) else sSet f n) = (if 0 < g n then sSet g n ||| (1 <<< (nI n &&& 31)) else sSet g n)
    rw [sSet_congr (fun j hj => h j (by omega)), h n (by omega)]
theorem sCnt_congr {f g : Nat → Int32} : ∀ {n : Nat}, (∀ j : Nat, j < n → f j = g j) → sCnt f n = sCnt g n
  | 0, _ => rfl
  | n + 1, h => by
    show (if f n = 0 then sCnt f n else sCnt f n + 1) = (if g n = 0 then sCnt g n else sCnt g n + 1)
    rw [sCnt_congr (fun j hj => h j (by omega)), h n (by omega)]
section SM
variable {z w v : Nat → Nat → Int32} {n p e m : Nat}
theorem sm.rf : sm z z := fun _ _ _ => rfl
theorem sm.symm (h : sm z w) : sm w z := fun k i hv => (h k i hv).symm
theorem sm.trans (h : sm z w) (h2 : sm w v) : sm z v := fun k i hv => (h k i hv).trans (h2 k i hv)
theorem sm_bec : sm (sBec z w) w := fun _ _ hv => sBec_at hv
theorem sm_sU (h : sm z w) (hp : p < 10) (he : e < 12) : sU z p e = sU w p e := h 5 _ (show p * 12 + e < 120 by omega)
theorem sm_sUP (h : sm z w) (hp : p < 10) : sUP z p = sUP w p := bx_congr (fun _ he => sm_sU h hp he)
theorem sm_sUS (h : sm z w) (he : e < 12) : sUS z e = sUS w e := bx_congr (fun p hp => h 5 _ (show e + 12 * p < 120 by omega))
theorem sm_sUC (h : sm z w) (hm : m < 5) (he : e < 12) : sUC z m e = sUC w m e := by
  unfold sUC
  rw [h 5 (2 * m * 12 + e) (show 2 * m * 12 + e < 120 by omega), h 5 (2 * m * 12 + e + 12) (show 2 * m * 12 + e + 12 < 120 by omega)]
theorem sm_nov (h : sm z w) (hp : p < 10) (he : e < 12) : sNov z p e = sNov w p e := by
  unfold sNov
  rw [h 0 1 (show 1 < 5 by decide), sm_sUS h he, sm_sUC h (show p / 2 < 5 by omega) he]
theorem sm_users (h : sm z w) (he : e < 12) : sUsers z e = sUsers w e := sSet_congr (fun _ hp => sm_sU h hp he)
theorem sm_WO (h : sm z w) (he : e < 12) : sWO z e = sWO w e := by
  unfold sWO
  by_cases c : ∀ p : Nat, p < 10 → sNov z p e ≤ 0
  · rw [if_pos c, if_pos (fun p hp => by rw [← sm_nov h hp he]; exact c p hp)]
  · rw [if_neg c, if_neg (fun q => c (fun p hp => by rw [sm_nov h hp he]; exact q p hp))]
theorem sm_bH (h : sm z w) (ee : Int32) : bH z ee = bH w ee := by unfold bH; rw [h 1 0 rfl]
theorem sm_count (h : sm z w) (hn : n ≤ 12) (pl kp wh : Int32) : tCount z n pl kp wh = tCount w n pl kp wh := by
  unfold tCount
  by_cases c : ¬ bW wh 0 4 = 0
  · rw [if_pos c, if_pos c]
    obtain ⟨j, hj, rfl⟩ := bW_nat (m := 4) rfl (by decide) c
    rw [cl_nI (by omega)]; exact h 0 j (show j < 5 by omega)
  · rw [if_neg c, if_neg c, h 1 0 rfl, show bx_sum (z 9) 10 = bx_sum (w 9) 10 from bx_congr (fun k hk => h 9 k hk), h 13 1 (show 1 ≤ 1 ∧ 1 ≤ 4 by decide), h 13 2 (show 1 ≤ 2 ∧ 2 ≤ 4 by decide), h 13 3 (show 1 ≤ 3 ∧ 3 ≤ 4 by decide), h 13 4 (show 1 ≤ 4 ∧ 4 ≤ 4 by decide), show bx_sum (z 7) 10 = bx_sum (w 7) 10 from bx_congr (fun k hk => h 7 k hk), show bx_sum (z 8) 10 = bx_sum (w 8) 10 from bx_congr (fun k hk => h 8 k hk), h 14 0 rfl, show bx_sum (z 6) 10 = bx_sum (w 6) 10 from bx_congr (fun k hk => h 6 k hk), show bx_sum (z 12) 5 = bx_sum (w 12) 5 from bx_congr (fun k hk => h 12 k hk), show sWOs z n = sWOs w n from sCnt_congr (fun e he => sm_WO h (by omega))]
theorem sm_pupil (h : sm z w) (pp wh : Int32) : tPupil z pp wh = tPupil w pp wh := by
  unfold tPupil
  by_cases c : bW pp 0 9 = 0
  · rw [if_pos c, if_pos c]
  · rw [if_neg c, if_neg c]
    obtain ⟨p, hp, rfl⟩ := bW_nat (m := 9) rfl (by decide) c
    have hp : p < 10 := by omega
    rw [cl_nI (by omega), h 6 p hp, h 7 p hp, h 9 p hp, h 10 p hp, h 11 p hp, sm_sUP h hp, h 12 (p / 2) (show p / 2 < 5 by omega), h 8 p hp]
theorem sm_excuse (h : sm z w) (hn1 : w 1 0 = nI n) (hn : n ≤ 12) (ee wh : Int32) : tExcuse z ee wh = tExcuse w ee wh := by
  unfold tExcuse
  rw [sm_bH h]
  by_cases c : bH w ee = 0
  · rw [if_pos c, if_pos c]
  · rw [if_neg c, if_neg c]
    obtain ⟨e, he, rfl⟩ := bH_nat hn1 (by omega) c
    have he : e < 12 := by omega
    rw [cl_nI (by omega), h 2 e he, h 3 e he, sm_sUS h he, h 4 e he, sm_users h he]
theorem sm_novelty (h : sm z w) (hn1 : w 1 0 = nI n) (hn : n ≤ 12) (pp ee : Int32) : tNovelty z pp ee = tNovelty w pp ee := by
  unfold tNovelty
  rw [sm_bH h]
  by_cases c : bW pp 0 9 = 0
  · rw [if_pos c, if_pos c]
  · rw [if_neg c, if_neg c]
    by_cases c2 : bH w ee = 0
    · rw [if_pos c2, if_pos c2]
    · rw [if_neg c2, if_neg c2]
      obtain ⟨p, hp, rfl⟩ := bW_nat (m := 9) rfl (by decide) c
      obtain ⟨e, he, rfl⟩ := bH_nat hn1 (by omega) c2
      rw [cl_nI (by omega), cl_nI (by omega)]
      exact sm_nov h (by omega) (by omega)
end SM
def sn1 (z : Nat → Nat → Int32) (n : Nat) : Nat → Int64 | 0 => 197 | k + 1 => 31 * sn1 z n k + (tCount z n 0 0 (nI k)).toInt64
def sn2 (z : Nat → Nat → Int32) (n : Nat) : Nat → Int64 | 0 => sn1 z n 18 | k + 1 => 31 * (31 * sn2 z n k + (tPupil z (nI (k / 8)) (nI (k % 8))).toInt64) + (tExcuse z (nI (k / 6)) (nI (k % 5))).toInt64
def sn3 (z : Nat → Nat → Int32) (n : Nat) : Nat → Int64 | 0 => sn2 z n 80 | k + 1 => 31 * (31 * sn3 z n k + (tExcuse z (nI (k / 5)) (nI (k % 5))).toInt64) + (tNovelty z (nI (k % 10)) (nI (k / 5))).toInt64
def sSeen (z : Nat → Nat → Int32) (n : Nat) : Int64 := sn3 z n 60
theorem tCount_lo (z : Nat → Nat → Int32) (n : Nat) (pl kp : Int32) {k : Nat} (hk : k < 18) : tCount z n pl kp (nI k) = tCount z n 0 0 (nI k) := by
  rcases (show k = 0 ∨ k = 1 ∨ k = 2 ∨ k = 3 ∨ k = 4 ∨ k = 5 ∨ k = 6 ∨ k = 7 ∨ k = 8 ∨ k = 9 ∨ k = 10 ∨ k = 11 ∨ k = 12 ∨ k = 13 ∨ k = 14 ∨ k = 15 ∨ k = 16 ∨ k = 17 by omega) with rfl | rfl | rfl | rfl | rfl | rfl | rfl | rfl | rfl | rfl | rfl | rfl | rfl | rfl | rfl | rfl | rfl | rfl <;> rfl
theorem sm_seen {z w : Nat → Nat → Int32} {n : Nat} (h : sm z w) (hn1 : w 1 0 = nI n) (hn : n ≤ 12) : sSeen z n = sSeen w n := by
  have e1 : ∀ k : Nat, sn1 z n k = sn1 w n k := fun k => by
    induction k with
    | zero => rfl
    | succ k ih => unfold sn1; rw [ih, sm_count h hn]
  have e2 : ∀ k : Nat, sn2 z n k = sn2 w n k := fun k => by
    induction k with
    | zero => exact e1 18
    | succ k ih => unfold sn2; rw [ih, sm_pupil h, sm_excuse h hn1 hn]
  have e3 : ∀ k : Nat, sn3 z n k = sn3 w n k := fun k => by
    induction k with
    | zero => exact e2 80
    | succ k ih => unfold sn3; rw [ih, sm_excuse h hn1 hn, sm_novelty h hn1 hn]
  exact e3 60
