/-! ===== what the methods answer, over one school's table z: 0 settings, 1 excuses, 2 kinds, 3 worths, 4 uses in all terms, 5 uses (pupil * 12 + excuse), 6 credits, 7 fines, 8 paid, 9 stamps, 10 refusals, 11 latest kinds, 12 grudges, 13 refused for, 14 terms ===== -/
abbrev cl (x : Int32) : Nat := x.toNatClampNeg
def bW (v lo hi : Int32) : Int32 := if v < lo then 0 else if hi < v then 0 else 1
theorem bW_01 (v lo hi : Int32) : bW v lo hi = 0 ∨ bW v lo hi = 1 := by unfold bW; split; exact Or.inl rfl; split; exact Or.inl rfl; exact Or.inr rfl
theorem z_01 {x : Int32} (h : x = 0 ∨ x = 1) : narrow .boolean (.int x) = .int x := by rcases h with rfl | rfl <;> rfl
theorem bW_z (v lo hi : Int32) : narrow .boolean (.int (bW v lo hi)) = .int (bW v lo hi) := z_01 (bW_01 v lo hi)
theorem bW_pos {v lo hi : Int32} (h : ¬ bW v lo hi = 0) : ¬ v < lo ∧ ¬ hi < v := by
  unfold bW at h
  by_cases h1 : v < lo
  · simp [h1] at h
  · by_cases h2 : hi < v
    · simp [h1, h2] at h
    · exact ⟨h1, h2⟩
/-- within 0 and m: a number -/
theorem bW_nat {v hi : Int32} {m : Nat} (hm : hi = nI m) (hb : m < 2 ^ 30) (h : ¬ bW v 0 hi = 0) : ∃ j : Nat, j ≤ m ∧ v = nI j := by
  obtain ⟨h1, h2⟩ := bW_pos h
  subst hm
  obtain ⟨j, hj, rfl⟩ := nI_of h1
  exact ⟨j, Nat.le_of_not_lt (fun q => h2 ((nI_ltI (by omega) hj).mpr q)), rfl⟩
theorem bW_of {j m : Nat} (hj : j ≤ m) (hm : m < 2 ^ 30) : bW (nI j) 0 (nI m) = 1 := by
  unfold bW
  rw [if_neg (nI_pos (by omega)), if_neg (nI_nlt hj (by omega))]
def bH (z : Nat → Nat → Int32) (e : Int32) : Int32 := if e < 0 then 0 else if z 1 0 ≤ e then 0 else 1
theorem bH_01 (z : Nat → Nat → Int32) (e : Int32) : bH z e = 0 ∨ bH z e = 1 := by unfold bH; split; exact Or.inl rfl; split; exact Or.inl rfl; exact Or.inr rfl
theorem bH_nat {z : Nat → Nat → Int32} {e : Int32} {n : Nat} (hn : z 1 0 = nI n) (hb : n < 2 ^ 30) (h : ¬ bH z e = 0) : ∃ j : Nat, j < n ∧ e = nI j := by
  unfold bH at h
  by_cases h1 : e < 0
  · simp [h1] at h
  · obtain ⟨j, hj, rfl⟩ := nI_of h1
    by_cases h2 : z 1 0 ≤ nI j
    · simp [h1, h2] at h
    · rw [hn] at h2
      exact ⟨j, Nat.lt_of_not_le (fun q => h2 (nI_le q (by omega))), rfl⟩
def sU (z : Nat → Nat → Int32) (p e : Nat) : Int32 := z 5 (p * 12 + e)
def sUP (z : Nat → Nat → Int32) (p : Nat) : Int32 := bx_sum (fun e => sU z p e) 12
def sUS (z : Nat → Nat → Int32) (e : Nat) : Int32 := bx_sum (fun p => z 5 (e + 12 * p)) 10
def sUC (z : Nat → Nat → Int32) (m e : Nat) : Int32 := z 5 (2 * m * 12 + e) + z 5 (2 * m * 12 + e + 12)
/-- the pupils who used it, as a set -/
def sSet (g : Nat → Int32) : Nat → Int32 | 0 => 0 | n + 1 => if 0 < g n then sSet g n ||| (1 <<< (nI n &&& 31)) else sSet g n
def sUsers (z : Nat → Nat → Int32) (e : Nat) : Int32 := sSet (fun p => sU z p e) 10
def sMax0 (x : Int32) : Int32 := if 0 < x then x else 0
def sNov (z : Nat → Nat → Int32) (p e : Nat) : Int32 := sMax0 (100 - z 0 1 * (sUS z e + sUC z (p / 2) e))
def sStand (z : Nat → Nat → Int32) (w p : Nat) : Int32 := if w / 2 = p / 2 then sMax0 (z 6 w - 2) else z 6 w
def sBase (z : Nat → Nat → Int32) (p e : Nat) (mn : Int32) : Int32 := z 3 e * sNov z p e / 100 - z 0 4 * z 12 (p / 2) - mn / 10
def sWt (z : Nat → Nat → Int32) (p e : Nat) (wt mn : Int32) : Int32 := if wt = -6 then sBase z p e mn else sBase z p e mn + sStand z (cl wt) p
def sReason (z : Nat → Nat → Int32) (p e : Nat) (wt mn : Int32) : Int32 :=
  if sU z p e < z 0 2 then (if z 11 p = z 2 e then 2 else if ¬ wt = -6 ∧ z 6 (cl wt) = 0 then 3 else if z 0 0 ≤ sWt z p e wt mn then 0 else 4) else 1
/-- worn out: nobody would find it new -/
def sWO (z : Nat → Nat → Int32) (e : Nat) : Int32 := if ∀ p : Nat, p < 10 → sNov z p e ≤ 0 then 1 else 0
theorem sWO_01 (z : Nat → Nat → Int32) (e : Nat) : sWO z e = 0 ∨ sWO z e = 1 := by unfold sWO; split; exact Or.inr rfl; exact Or.inl rfl
def sCnt (g : Nat → Int32) : Nat → Int32 | 0 => 0 | n + 1 => if g n = 0 then sCnt g n else sCnt g n + 1
def sWOs (z : Nat → Nat → Int32) (n : Nat) : Int32 := sCnt (fun e => sWO z e) n
theorem cl_nI {w : Nat} (h : w < 2 ^ 31) : cl (nI w) = w := nI_clamp h
/-! what the methods make of the table -/
def sTake (z : Nat → Nat → Int32) (wt c : Int32) : Nat → Nat → Int32 := if wt = -6 then z else zu z 6 (cl wt) (sMax0 (z 6 (cl wt) - c))
def sMin9 (x : Int32) : Int32 := if x < 9 then x else 9
def sAnger (z : Nat → Nat → Int32) (p : Nat) : Nat → Nat → Int32 := zu z 12 (p / 2) (sMin9 (z 12 (p / 2) + 1))
def sStamp0 (z : Nat → Nat → Int32) (p e : Nat) : Nat → Nat → Int32 := zu (zu (zu z 5 (p * 12 + e) (z 5 (p * 12 + e) + 1)) 4 e (z 4 e + 1)) 9 p (z 9 p + 1)
def sStamp (z : Nat → Nat → Int32) (p e : Nat) (wt mn : Int32) : Nat → Nat → Int32 := if mn ≤ 30 then sTake (sStamp0 z p e) wt 1 else sAnger (sTake (sStamp0 z p e) wt 1) p
def sRefuse0 (z : Nat → Nat → Int32) (p : Nat) (mn : Int32) (r : Nat) : Nat → Nat → Int32 := sAnger (zu (zu (zu z 7 p (z 7 p + z 0 3 * mn)) 10 p (z 10 p + 1)) 13 r (z 13 r + 1)) p
def sRefuse (z : Nat → Nat → Int32) (p : Nat) (wt mn : Int32) (r : Nat) : Nat → Nat → Int32 := if r = 4 then sTake (sRefuse0 z p mn r) wt 2 else sRefuse0 z p mn r
def sOffer0 (z : Nat → Nat → Int32) (p e : Nat) (wt mn : Int32) : Nat → Nat → Int32 := if sReason z p e wt mn = 0 then sStamp z p e wt mn else sRefuse z p wt mn (cl (sReason z p e wt mn))
def sOffer (z : Nat → Nat → Int32) (p e : Nat) (wt mn : Int32) : Nat → Nat → Int32 := zu (sOffer0 z p e wt mn) 11 p (sOffer0 z p e wt mn 2 e)
theorem sReason_nat (z : Nat → Nat → Int32) (p e : Nat) (wt mn : Int32) (h : ¬ sReason z p e wt mn = 0) : ∃ r : Nat, 1 ≤ r ∧ r ≤ 4 ∧ sReason z p e wt mn = nI r := by
  unfold sReason at h ⊢
  by_cases c1 : sU z p e < z 0 2
  · rw [if_pos c1] at h ⊢
    by_cases c2 : z 11 p = z 2 e
    · rw [if_pos c2] at h ⊢
      exact ⟨2, by decide, by decide, rfl⟩
    · rw [if_neg c2] at h ⊢
      by_cases c3 : ¬ wt = -6 ∧ z 6 (cl wt) = 0
      · rw [if_pos c3] at h ⊢
        exact ⟨3, by decide, by decide, rfl⟩
      · rw [if_neg c3] at h ⊢
        by_cases c4 : z 0 0 ≤ sWt z p e wt mn
        · rw [if_pos c4] at h
          exact absurd rfl h
        · rw [if_neg c4] at h ⊢
          exact ⟨4, by decide, by decide, rfl⟩
  · rw [if_neg c1] at h ⊢
    exact ⟨1, by decide, by decide, rfl⟩
def sAdd (z : Nat → Nat → Int32) (n : Nat) (kind worth : Int32) : Nat → Nat → Int32 := zu (zu (zu z 2 n kind) 3 n worth) 1 0 (nI (n + 1))
def sT1 (z : Nat → Nat → Int32) : Nat → Nat → Nat → Int32 | 0 => z | k + 1 => zu (sT1 z k) 5 k 0
def sT2 (z : Nat → Nat → Int32) : Nat → Nat → Nat → Int32 | 0 => z | k + 1 => zu (zu (sT2 z k) 11 k (-6)) 6 k (sMin9 (sT2 z k 6 k + 2))
def sT3 (z : Nat → Nat → Int32) : Nat → Nat → Nat → Int32 | 0 => z | k + 1 => zu (sT3 z k) 12 k (sT3 z k 12 k / 2)
def sTerm0 (z : Nat → Nat → Int32) : Nat → Nat → Int32 := sT3 (sT2 (sT1 z 120) 10) 5
def sTerm (z : Nat → Nat → Int32) : Nat → Nat → Int32 := zu (sTerm0 z) 14 0 (sTerm0 z 14 0 + 1)
/-- z becomes w, row by row -/
def sBec (z w : Nat → Nat → Int32) : Nat → Nat → Int32 :=
  zu (zc (zc (zc (zc (zc (zc (zc (zc (zc (zc (zc (zc (zu (zc z 0 (va_cpy (w 0) (z 0) 0 0 5)) 1 0 (w 1 0)) 2 (va_cpy (w 2) (z 2) 0 0 12)) 3 (va_cpy (w 3) (z 3) 0 0 12)) 4 (va_cpy (w 4) (z 4) 0 0 12)) 5 (va_cpy (w 5) (z 5) 0 0 120)) 6 (va_cpy (w 6) (z 6) 0 0 10)) 7 (va_cpy (w 7) (z 7) 0 0 10)) 8 (va_cpy (w 8) (z 8) 0 0 10)) 9 (va_cpy (w 9) (z 9) 0 0 10)) 10 (va_cpy (w 10) (z 10) 0 0 10)) 11 (va_cpy (w 11) (z 11) 0 0 10)) 12 (va_cpy (w 12) (z 12) 0 0 5)) 13 (va_cpy (w 13) (z 13) 0 0 5)) 14 0 (w 14 0)
/-! the reader: r 0 0 place, r 1 0 pupil, r 2 0 excuse, r 3 0 minutes, r 4 0 witness -/
def rDig (c : Int32) : Int32 := bW c 48 57
def bE (c d : Int32) : Int32 := if c = d then 1 else 0
theorem bE_01 (c d : Int32) : bE c d = 0 ∨ bE c d = 1 := by unfold bE; split; exact Or.inr rfl; exact Or.inl rfl
def rGo (r : Nat → Nat → Int32) (b nx : Int32) : Nat → Nat → Int32 := if b = 0 then r else zu r 0 0 nx
def rBegin (r : Nat → Nat → Int32) : Nat → Nat → Int32 := zu (zu r 0 0 0) 4 0 (-6)
def rPupil (r : Nat → Nat → Int32) (c : Int32) : Nat → Nat → Int32 := rGo (if rDig c = 0 then r else zu r 1 0 (c - 48)) (rDig c) 1
def rExcuse (r : Nat → Nat → Int32) (c : Int32) : Nat → Nat → Int32 := rGo (if bW c 97 108 = 0 then r else zu r 2 0 (c - 97)) (bW c 97 108) 2
def rMin (r : Nat → Nat → Int32) (c t nx : Int32) : Nat → Nat → Int32 := rGo (if rDig c = 0 then r else zu r 3 0 (10 * t + c - 48)) (rDig c) nx
def rComma (r : Nat → Nat → Int32) (c : Int32) : Nat → Nat → Int32 := rGo (if c = 44 then zu r 4 0 (-6) else r) (bE c 44) 0
def rAfter (r : Nat → Nat → Int32) (c : Int32) : Nat → Nat → Int32 := if c = 119 then zu r 0 0 6 else rComma r c
def rAfterB (c : Int32) : Int32 := if c = 119 then 1 else bE c 44
def rWitB (r : Nat → Nat → Int32) (c : Int32) : Int32 := if rDig c = 0 then 0 else if c - 48 = r 1 0 then 0 else 1
def rWit (r : Nat → Nat → Int32) (c : Int32) : Nat → Nat → Int32 := rGo (if rWitB r c = 0 then r else zu r 4 0 (c - 48)) (rWitB r c) 7
/-- whether a character may stand, and the reader behind it -/
def rB (r : Nat → Nat → Int32) (c : Int32) : Int32 :=
  if r 0 0 = 0 then rDig c else if r 0 0 = 1 then bW c 97 108 else if r 0 0 = 2 then bE c 109 else if r 0 0 = 3 then (if c = 48 then 0 else rDig c) else if r 0 0 = 4 then (if rDig c = 0 then rAfterB c else 1) else if r 0 0 = 5 then rAfterB c else if r 0 0 = 6 then rWitB r c else bE c 44
def rT (r : Nat → Nat → Int32) (c : Int32) : Nat → Nat → Int32 :=
  if r 0 0 = 0 then rPupil r c else if r 0 0 = 1 then rExcuse r c else if r 0 0 = 2 then rGo r (bE c 109) 3 else if r 0 0 = 3 then (if c = 48 then r else rMin r c 0 4) else if r 0 0 = 4 then (if rDig c = 0 then rAfter (rMin r c (r 3 0) 5) c else rMin r c (r 3 0) 5) else if r 0 0 = 5 then rAfter r c else if r 0 0 = 6 then rWit r c else rComma r c
def rEnd (r : Nat → Nat → Int32) : Int32 := if r 0 0 = 4 then 1 else if r 0 0 = 5 then 1 else if r 0 0 = 7 then 1 else 0
theorem rDig_01 (c : Int32) : rDig c = 0 ∨ rDig c = 1 := bW_01 _ _ _
theorem rAfterB_01 (c : Int32) : rAfterB c = 0 ∨ rAfterB c = 1 := by unfold rAfterB; split; exact Or.inr rfl; exact bE_01 _ _
theorem rWitB_01 (r : Nat → Nat → Int32) (c : Int32) : rWitB r c = 0 ∨ rWitB r c = 1 := by unfold rWitB; split; exact Or.inl rfl; split; exact Or.inl rfl; exact Or.inr rfl
theorem rB_01 (r : Nat → Nat → Int32) (c : Int32) : rB r c = 0 ∨ rB r c = 1 := by
  unfold rB
  split; exact rDig_01 c
  split; exact bW_01 _ _ _
  split; exact bE_01 _ _
  split; (split; exact Or.inl rfl; exact rDig_01 c)
  split; (split; exact rAfterB_01 c; exact Or.inr rfl)
  split; exact rAfterB_01 c
  split; exact rWitB_01 r c
  exact bE_01 _ _
/-! the class: what its methods answer (z the school in use) and make of the table of groups -/
theorem nI_min6 {a : Nat} (h : a < 2 ^ 30) : (if nI (a + 1) < 6 then nI (a + 1) else 6) = nI (min 6 (a + 1)) := by
  by_cases c : a + 1 < 6
  · rw [if_pos (show nI (a + 1) < 6 from nI_lt c (by decide)), Nat.min_eq_right (by omega)]
  · rw [if_neg (show ¬ nI (a + 1) < 6 from nI_nlt (a := a + 1) (b := 6) (by omega) (by omega)), Nat.min_eq_left (by omega)]; rfl
def sRing (h : Nat → Nat → Int32) (nx kp : Nat) : Nat → Nat → Int32 := zu (zu h 1 0 (nI nx)) 2 0 (nI kp)
def sKeep (Z : Nat → Nat → Nat → Int32) (nx kp : Nat) : Nat → Nat → Nat → Int32 := va_up (va_up Z (1 + nx) (sBec (Z (1 + nx)) (Z 0))) 12 (sRing (Z 12) ((nx + 1) % 6) (min 6 (kp + 1)))
theorem sKeep_0 (Z : Nat → Nat → Nat → Int32) (nx kp : Nat) : sKeep Z nx kp 0 = Z 0 := by
  unfold sKeep
  rw [va_up_ne _ _ (by decide), va_up_ne _ _ (by omega)]
theorem sKeep_ok {κ : pv_Kt} {x : Nat → Nat → Nat} {L : List Nat} {f : Nat → va_E} {Z : Nat → Nat → Nat → Int32} {nx kp : Nat} (h : pv_ok κ x L f (sKeep Z nx kp)) : pv_ok κ x L f (va_up (sKeep Z nx kp) 0 (Z 0)) := by
  have h2 := ogI h 0
  rw [sKeep_0] at h2
  exact h2
def sBack (Z : Nat → Nat → Nat → Int32) (nx kp : Nat) : Nat → Nat → Nat → Int32 := va_up (va_up Z 12 (sRing (Z 12) ((nx + 6 - 1) % 6) (kp - 1))) 0 (sBec (Z 0) (Z (1 + (nx + 6 - 1) % 6)))
def tErr (z : Nat → Nat → Int32) (pp ee wt mn : Int32) : Int32 := if bW pp 0 9 = 0 then -1 else if bH z ee = 0 then -1 else if ¬ wt = -6 ∧ bW wt 0 9 = 0 then -1 else if bW mn 1 99 = 0 then -2 else if wt = pp then -2 else 0
theorem tErr_0 {z : Nat → Nat → Int32} {pp ee wt mn : Int32} {n : Nat} (hn : z 1 0 = nI n) (hn12 : n ≤ 12) (h : tErr z pp ee wt mn = 0) : ∃ p e : Nat, p < 10 ∧ e < 12 ∧ pp = nI p ∧ ee = nI e ∧ (wt = -6 ∨ ∃ w : Nat, w < 10 ∧ wt = nI w) := by
  unfold tErr at h
  by_cases c1 : bW pp 0 9 = 0
  · rw [if_pos c1] at h; exact absurd h (by decide)
  rw [if_neg c1] at h
  by_cases c2 : bH z ee = 0
  · rw [if_pos c2] at h; exact absurd h (by decide)
  rw [if_neg c2] at h
  by_cases c3 : ¬ wt = -6 ∧ bW wt 0 9 = 0
  · rw [if_pos c3] at h; exact absurd h (by decide)
  obtain ⟨p, hp, e1⟩ := bW_nat (m := 9) rfl (by decide) c1
  obtain ⟨e, he, e2⟩ := bH_nat hn (by omega) c2
  refine ⟨p, e, by omega, by omega, e1, e2, ?_⟩
  by_cases c4 : wt = -6
  · exact Or.inl c4
  · obtain ⟨w, hw, e3⟩ := bW_nat (v := wt) (m := 9) rfl (by decide) (fun q => c3 ⟨c4, q⟩)
    exact Or.inr ⟨w, by omega, e3⟩
def tWhy (z : Nat → Nat → Int32) (pp ee wt mn : Int32) : Int32 := if tErr z pp ee wt mn = 0 then sReason z (cl pp) (cl ee) wt mn else tErr z pp ee wt mn
def tWeight (z : Nat → Nat → Int32) (pp ee wt mn : Int32) : Int32 := if tErr z pp ee wt mn = 0 then 1000 + sWt z (cl pp) (cl ee) wt mn else tErr z pp ee wt mn
def tOfferZ (Z : Nat → Nat → Nat → Int32) (nx kp : Nat) (pp ee wt mn : Int32) : Nat → Nat → Nat → Int32 := if tErr (Z 0) pp ee wt mn = 0 then va_up (sKeep Z nx kp) 0 (sOffer (Z 0) (cl pp) (cl ee) wt mn) else Z
def tNovelty (z : Nat → Nat → Int32) (pp ee : Int32) : Int32 := if bW pp 0 9 = 0 then -1 else if bH z ee = 0 then -1 else sNov z (cl pp) (cl ee)
def tSet (z : Nat → Nat → Int32) (st v : Int32) : Int32 := if bW st 0 4 = 0 then -2 else if bW v (pv_t1 (cl st)) (pv_t2 (cl st)) = 0 then -2 else z 0 (cl st)
def tSetZ (Z : Nat → Nat → Nat → Int32) (nx kp : Nat) (st v : Int32) : Nat → Nat → Nat → Int32 := if bW st 0 4 = 0 then Z else if bW v (pv_t1 (cl st)) (pv_t2 (cl st)) = 0 then Z else va_up (sKeep Z nx kp) 0 (zu (Z 0) 0 (cl st) v)
def tAdd (n : Nat) (kd wh : Int32) : Int32 := if bW kd 0 4 = 0 then -2 else if bW wh 1 99 = 0 then -2 else if n < 12 then nI n else -4
def tAddZ (Z : Nat → Nat → Nat → Int32) (nx kp n : Nat) (kd wh : Int32) : Nat → Nat → Nat → Int32 := if bW kd 0 4 = 0 then Z else if bW wh 1 99 = 0 then Z else if n < 12 then va_up (sKeep Z nx kp) 0 (sAdd (Z 0) n kd wh) else Z
def tWorth (z : Nat → Nat → Int32) (ee wh : Int32) : Int32 := if bH z ee = 0 then -1 else if bW wh 1 99 = 0 then -2 else z 3 (cl ee)
def tWorthZ (Z : Nat → Nat → Nat → Int32) (nx kp : Nat) (ee wh : Int32) : Nat → Nat → Nat → Int32 := if bH (Z 0) ee = 0 then Z else if bW wh 1 99 = 0 then Z else va_up (sKeep Z nx kp) 0 (zu (Z 0) 3 (cl ee) wh)
def sPay (z : Nat → Nat → Int32) (p : Nat) (pc : Int32) : Nat → Nat → Int32 := zu (zu z 7 p (z 7 p - pc)) 8 p (z 8 p + pc)
def tPay (z : Nat → Nat → Int32) (pp pc : Int32) : Int32 := if bW pp 0 9 = 0 then -1 else if bW pc 1 9999 = 0 then -2 else if pc ≤ z 7 (cl pp) then z 7 (cl pp) - pc else -5
def tPayZ (Z : Nat → Nat → Nat → Int32) (nx kp : Nat) (pp pc : Int32) : Nat → Nat → Nat → Int32 := if bW pp 0 9 = 0 then Z else if bW pc 1 9999 = 0 then Z else if pc ≤ Z 0 7 (cl pp) then va_up (sKeep Z nx kp) 0 (sPay (Z 0) (cl pp) pc) else Z
def tEnd (z : Nat → Nat → Int32) : Int32 := bx_sum (z 5) 120
def tEndZ (Z : Nat → Nat → Nat → Int32) (nx kp : Nat) : Nat → Nat → Nat → Int32 := va_up (sKeep Z nx kp) 0 (sTerm (Z 0))
def tExcuse (z : Nat → Nat → Int32) (ee wh : Int32) : Int32 := if bH z ee = 0 then -1 else if wh = 0 then z 2 (cl ee) else if wh = 1 then z 3 (cl ee) else if wh = 2 then sUS z (cl ee) else if wh = 3 then z 4 (cl ee) else if wh = 4 then sUsers z (cl ee) else -2
def tPupil (z : Nat → Nat → Int32) (pp wh : Int32) : Int32 := if bW pp 0 9 = 0 then -1 else if wh = 0 then z 6 (cl pp) else if wh = 1 then z 7 (cl pp) else if wh = 2 then z 9 (cl pp) else if wh = 3 then z 10 (cl pp) else if wh = 4 then z 11 (cl pp) else if wh = 5 then sUP z (cl pp) else if wh = 6 then z 12 (cl pp / 2) else if wh = 7 then z 8 (cl pp) else -2
def tCount (z : Nat → Nat → Int32) (n : Nat) (pl kp wh : Int32) : Int32 :=
  if ¬ bW wh 0 4 = 0 then z 0 (cl wh) else if wh = 5 then z 1 0 else if wh = 6 then bx_sum (z 9) 10 else if wh = 7 then z 13 1 else if wh = 8 then z 13 2 else if wh = 9 then z 13 3 else if wh = 10 then z 13 4 else if wh = 11 then bx_sum (z 7) 10 else if wh = 12 then bx_sum (z 8) 10 else if wh = 13 then bx_sum (z 7) 10 + bx_sum (z 8) 10 else if wh = 14 then z 14 0 else if wh = 15 then bx_sum (z 6) 10 else if wh = 16 then bx_sum (z 12) 5 else if wh = 17 then sWOs z n else if wh = 18 then pl else if wh = 19 then kp else -2
/-- the best excuse among the first, and its weight -/
def sBE (z : Nat → Nat → Int32) (p : Nat) (mn : Int32) : Nat → Int32 × Int32
  | 0 => (-6, 0)
  | k + 1 => if sReason z p k (-6) mn = 0 then (if (sBE z p mn k).1 = -6 then (nI k, sWt z p k (-6) mn) else if sWt z p k (-6) mn ≤ (sBE z p mn k).2 then sBE z p mn k else (nI k, sWt z p k (-6) mn)) else sBE z p mn k
def tBestE (z : Nat → Nat → Int32) (n : Nat) (pp mn : Int32) : Int32 := if bW pp 0 9 = 0 then -1 else if bW mn 1 99 = 0 then -2 else (sBE z (cl pp) mn n).1
def sBW (z : Nat → Nat → Int32) (p e : Nat) (mn : Int32) : Nat → Int32 × Int32
  | 0 => (-6, 0)
  | k + 1 => if k = p then sBW z p e mn k else if z 6 k ≤ 0 then sBW z p e mn k else if (sBW z p e mn k).1 = -6 then (nI k, sWt z p e (nI k) mn) else if sWt z p e (nI k) mn ≤ (sBW z p e mn k).2 then sBW z p e mn k else (nI k, sWt z p e (nI k) mn)
def tBestW (z : Nat → Nat → Int32) (pp ee mn : Int32) : Int32 := if bW pp 0 9 = 0 then -1 else if bH z ee = 0 then -1 else if bW mn 1 99 = 0 then -2 else (sBW z (cl pp) (cl ee) mn 10).1
def sMM (z : Nat → Nat → Int32) (p e : Nat) : Nat → Int32
  | 0 => -6
  | k + 1 => if sReason z p e (-6) (nI (k + 1)) = 0 then nI (k + 1) else sMM z p e k
def tMost (z : Nat → Nat → Int32) (pp ee : Int32) : Int32 := if bW pp 0 9 = 0 then -1 else if bH z ee = 0 then -1 else sMM z (cl pp) (cl ee) 99
def tUndo (kp : Nat) : Int32 := if kp = 0 then -5 else nI (kp - 1)
def tUndoZ (Z : Nat → Nat → Nat → Int32) (nx kp : Nat) : Nat → Nat → Nat → Int32 := if kp = 0 then Z else sBack Z nx kp
theorem sBack_kept (Z : Nat → Nat → Nat → Int32) (nx kp : Nat) : sBack Z nx kp 12 2 0 = nI (kp - 1) := by
  unfold sBack
  rw [va_up_ne _ _ (by decide), va_up_e]
  rfl
def tSave (z : Nat → Nat → Int32) (sl : Int32) : Int32 := if bW sl 0 1 = 0 then -2 else z 14 0
def tSaveZ (Z : Nat → Nat → Nat → Int32) (sl : Int32) : Nat → Nat → Nat → Int32 := if bW sl 0 1 = 0 then Z else va_up (va_up Z (7 + cl sl) (sBec (Z (7 + cl sl)) (Z 0))) 12 (zu (Z 12) 4 (cl sl) 1)
def tRestore (Z : Nat → Nat → Nat → Int32) (nx kp : Nat) (sl : Int32) : Int32 := if bW sl 0 1 = 0 then -2 else if Z 12 4 (cl sl) = 0 then -5 else sKeep Z nx kp (7 + cl sl) 14 0
def tRestoreZ (Z : Nat → Nat → Nat → Int32) (nx kp : Nat) (sl : Int32) : Nat → Nat → Nat → Int32 := if bW sl 0 1 = 0 then Z else if Z 12 4 (cl sl) = 0 then Z else va_up (sKeep Z nx kp) 0 (sBec (Z 0) (sKeep Z nx kp (7 + cl sl)))
