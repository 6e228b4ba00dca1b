/-! ===== what the methods answer, over one school's table z: 0 settings, 1 excuses, 2 kinds, 3 worths, 4 uses in all terms, 5 uses (pupil * 12 + excuse), 6 credits, 7 fines, 8 paid, 9 stamps, 10 refusals, 11 latest kinds, 12 grudges, 13 refused for, 14 terms ===== -/
abbrev cl (x : Int32) : Nat := x.toNatClampNeg
def bW (v lo hi : Int32) : Int32 := if v < lo then 0 else if hi < v then 0 else 1
theorem bW_01 (v lo hi : Int32) : bW v lo hi = 0 ∨ bW v lo hi = 1 := by unfold bW; split; exact Or.inl rfl; split; exact Or.inl rfl; exact Or.inr rfl
theorem z_01 {x : Int32} (h : x = 0 ∨ x = 1) : narrow .boolean (.int x) = .int x := by rcases h with rfl | rfl <;> rfl
theorem bW_z (v lo hi : Int32) : narrow .boolean (.int (bW v lo hi)) = .int (bW v lo hi) := z_01 (bW_01 v lo hi)
theorem bW_pos {v lo hi : Int32} (h : ¬ bW v lo hi = 0) : ¬ v < lo ∧ ¬ hi < v := by
  unfold bW at h
  by_cases h1 : v < lo
  · simp [h1] at h
  · by_cases h2 : hi < v
    · simp [h1, h2] at h
    · exact ⟨h1, h2⟩
/-- within 0 and m: a number -/
theorem bW_nat {v hi : Int32} {m : Nat} (hm : hi = nI m) (hb : m < 2 ^ 30) (h : ¬ bW v 0 hi = 0) : ∃ j : Nat, j ≤ m ∧ v = nI j := by
  obtain ⟨h1, h2⟩ := bW_pos h
  subst hm
  obtain ⟨j, hj, rfl⟩ := nI_of h1
  exact ⟨j, Nat.le_of_not_lt (fun q => h2 ((nI_ltI (by omega) hj).mpr q)), rfl⟩
theorem bW_of {j m : Nat} (hj : j ≤ m) (hm : m < 2 ^ 30) : bW (nI j) 0 (nI m) = 1 := by
  unfold bW
  rw [if_neg (nI_pos (by omega)), if_neg (nI_nlt hj (by omega))]
def bH (z : Nat → Nat → Int32) (e : Int32) : Int32 := if e < 0 then 0 else if z 1 0 ≤ e then 0 else 1
theorem bH_01 (z : Nat → Nat → Int32) (e : Int32) : bH z e = 0 ∨ bH z e = 1 := by unfold bH; split; exact Or.inl rfl; split; exact Or.inl rfl; exact Or.inr rfl
theorem bH_nat {z : Nat → Nat → Int32} {e : Int32} {n : Nat} (hn : z 1 0 = nI n) (hb : n < 2 ^ 30) (h : ¬ bH z e = 0) : ∃ j : Nat, j < n ∧ e = nI j := by
  unfold bH at h
  by_cases h1 : e < 0
  · simp [h1] at h
  · obtain ⟨j, hj, rfl⟩ := nI_of h1
    by_cases h2 : z 1 0 ≤ nI j
    · simp [h1, h2] at h
    · rw [hn] at h2
      exact ⟨j, Nat.lt_of_not_le (fun q => h2 (nI_le q (by omega))), rfl⟩
def sU (z : Nat → Nat → Int32) (p e : Nat) : Int32 := z 5 (p * 12 + e)
def sUP (z : Nat → Nat → Int32) (p : Nat) : Int32 := bx_sum (fun e => sU z p e) 12
def sUS (z : Nat → Nat → Int32) (e : Nat) : Int32 := bx_sum (fun p => z 5 (e + 12 * p)) 10
def sUC (z : Nat → Nat → Int32) (m e : Nat) : Int32 := z 5 (2 * m * 12 + e) + z 5 (2 * m * 12 + e + 12)
/-- the pupils who used it, as a set -/
def sSet (g : Nat → Int32) : Nat → Int32 | 0 => 0 | n + 1 => if 0 < g n then sSet g n ||| (1 <<< (nI n &&& 31)) else sSet g n
def sUsers (z : Nat → Nat → Int32) (e : Nat) : Int32 := sSet (fun p => sU z p e) 10
def sMax0 (x : Int32) : Int32 := if 0 < x then x else 0
def sNov (z : Nat → Nat → Int32) (p e : Nat) : Int32 := sMax0 (100 - z 0 1 * (sUS z e + sUC z (p / 2) e))
def sStand (z : Nat → Nat → Int32) (w p : Nat) : Int32 := if w / 2 = p / 2 then sMax0 (z 6 w - 2) else z 6 w
def sBase (z : Nat → Nat → Int32) (p e : Nat) (mn : Int32) : Int32 := z 3 e * sNov z p e / 100 - z 0 4 * z 12 (p / 2) - mn / 10
def sWt (z : Nat → Nat → Int32) (p e : Nat) (wt mn : Int32) : Int32 := if wt = -6 then sBase z p e mn else sBase z p e mn + sStand z (cl wt) p
def sReason (z : Nat → Nat → Int32) (p e : Nat) (wt mn : Int32) : Int32 :=
  if sU z p e < z 0 2 then (if z 11 p = z 2 e then 2 else if ¬ wt = -6 ∧ z 6 (cl wt) = 0 then 3 else if z 0 0 ≤ sWt z p e wt mn then 0 else 4) else 1
/-- worn out: nobody would find it new -/
def sWO (z : Nat → Nat → Int32) (e : Nat) : Int32 := if ∀ p : Nat, p < 10 → sNov z p e ≤ 0 then 1 else 0
theorem sWO_01 (z : Nat → Nat → Int32) (e : Nat) : sWO z e = 0 ∨ sWO z e = 1 := by unfold sWO; split; exact Or.inr rfl; exact Or.inl rfl
def sCnt (g : Nat → Int32) : Nat → Int32 | 0 => 0 | n + 1 => if g n = 0 then sCnt g n else sCnt g n + 1
def sWOs (z : Nat → Nat → Int32) (n : Nat) : Int32 := sCnt (fun e => sWO z e) n
theorem cl_nI {w : Nat} (h : w < 2 ^ 31) : cl (nI w) = w := nI_clamp h
