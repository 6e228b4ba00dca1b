theorem mR.congr {z z2 : Nat → Nat → Int32} {w : Nat → Int32} (h : mR z w) (he : ∀ k i : Nat, mv k i → z k i = z2 k i) : mR z2 w := fun k i hv => (h k i hv).trans (he k i hv)
theorem bx_up {f : Nat → Int32} {v : Int32} : ∀ {n j : Nat}, j < n → bx_sum (va_up f j (f j + v)) n = bx_sum f n + v
  | 0, j, h => absurd h (Nat.not_lt_zero j)
  | n + 1, j, h => by
    show bx_sum (va_up f j (f j + v)) n + va_up f j (f j + v) n = bx_sum f n + f n + v
    by_cases c : j = n
    · subst c
      rw [show va_up f j (f j + v) j = f j + v by simp [va_up], bx_congr (g := f) (fun k hk => va_up_ne _ _ (by omega)), Int32.add_assoc]
    · rw [bx_up (n := n) (by omega), va_up_ne _ _ (fun q => c q.symm), Int32.add_assoc, Int32.add_comm v, ← Int32.add_assoc]
theorem mS.up {z : Nat → Nat → Int32} {n : Nat} {w : Nat → Int32} (h : mS z n w) {k i : Nat} (hv : mv k i) (v : Int32) (h9 : k ≠ 9) (h5 : k ≠ 5) (hg : gd (zu z k i v) n) : mS (zu z k i v) n (va_up w (mp k i) v) := by
  have e6 : mp k i ≠ 6 := fun q => by
    have hk := mv_lt hv
    rcases (show k = 0 ∨ k = 1 ∨ k = 2 ∨ k = 3 ∨ k = 4 ∨ k = 5 ∨ k = 6 ∨ k = 7 ∨ k = 8 ∨ k = 9 ∨ k = 10 ∨ k = 11 ∨ k = 12 ∨ k = 13 ∨ k = 14 by omega) with rfl | rfl | rfl | rfl | rfl | rfl | rfl | rfl | rfl | rfl | rfl | rfl | rfl | rfl | rfl <;> simp only [mv, mp] at hv q <;> omega
  have e12 : mp k i ≠ 12 := fun q => by
    have hk := mv_lt hv
    rcases (show k = 0 ∨ k = 1 ∨ k = 2 ∨ k = 3 ∨ k = 4 ∨ k = 5 ∨ k = 6 ∨ k = 7 ∨ k = 8 ∨ k = 9 ∨ k = 10 ∨ k = 11 ∨ k = 12 ∨ k = 13 ∨ k = 14 by omega) with rfl | rfl | rfl | rfl | rfl | rfl | rfl | rfl | rfl | rfl | rfl | rfl | rfl | rfl | rfl <;> simp only [mv, mp] at hv q <;> omega
  refine ⟨h.1.up hv v, hg, ?_, ?_⟩
  · rw [va_up_ne _ _ (Ne.symm e6), h.2.2.1, zu_o (Ne.symm h9)]
  · rw [va_up_ne _ _ (Ne.symm e12), h.2.2.2, zu_o (Ne.symm h5)]
/-- a row of which gd says nothing -/
theorem gd.free {z : Nat → Nat → Int32} {n : Nat} (h : gd z n) {k i : Nat} (v : Int32) (hk : k = 2 ∨ k = 7 ∨ k = 8 ∨ k = 9 ∨ k = 10 ∨ k = 11 ∨ k = 13 ∨ k = 14) : gd (zu z k i v) n := by
  have o : ∀ l : Nat, l ≠ k → zu z k i v l = z l := fun l hl => zu_o hl
  unfold gd
  rw [o 1 (by omega), o 6 (by omega), o 12 (by omega), o 5 (by omega), o 3 (by omega), o 0 (by omega), o 4 (by omega)]
  exact h
theorem bW_nI {v : Int32} {a b : Nat} {lo hi : Int32} (hlo : lo = nI a) (hhi : hi = nI b) (hab : a ≤ b) (hb : b < 2 ^ 20) (h : ¬ bW v lo hi = 0) : ∃ d : Nat, d ≤ b ∧ v = nI d := by
  obtain ⟨d, h1, h2, -⟩ := bW_off hlo hhi hab hb h
  exact ⟨a + d, by omega, h2⟩
theorem gd.set {z : Nat → Nat → Int32} {n k : Nat} {v : Int32} (h : gd z n) (hk : k ≤ 4) (hv : ¬ bW v (pv_t1 k) (pv_t2 k) = 0) : gd (zu z 0 k v) n := by
  have o : ∀ l : Nat, l ≠ 0 → zu z 0 k v l = z l := fun l hl => zu_o hl
  obtain ⟨h1, h2, h3, h4, h5, h6, ⟨h71, h72, h73⟩, h8, h9⟩ := h
  unfold gd
  rw [o 1 (by omega), o 6 (by omega), o 12 (by omega), o 5 (by omega), o 3 (by omega), o 4 (by omega)]
  refine ⟨h1, h2, h3, h4, h5, h6, ⟨?_, ?_, ?_⟩, h8, h9⟩
  · by_cases c : k = 1
    · subst c
      rw [zu_ee]
      exact bW_nI (a := 0) (b := 50) rfl rfl (by decide) (by decide) hv
    · rw [zu_en (Ne.symm c)]; exact h71
  · by_cases c : k = 2
    · subst c
      rw [zu_ee]
      exact bW_nI (a := 1) (b := 9) rfl rfl (by decide) (by decide) hv
    · rw [zu_en (Ne.symm c)]; exact h72
  · by_cases c : k = 4
    · subst c
      rw [zu_ee]
      exact bW_nI (a := 0) (b := 20) rfl rfl (by decide) (by decide) hv
    · rw [zu_en (Ne.symm c)]; exact h73
theorem gd.worth {z : Nat → Nat → Int32} {n e : Nat} {v : Int32} (h : gd z n) (hv : ¬ bW v 1 99 = 0) : gd (zu z 3 e v) n := by
  have o : ∀ l : Nat, l ≠ 3 → zu z 3 e v l = z l := fun l hl => zu_o hl
  obtain ⟨h1, h2, h3, h4, h5, h6, h7, h8, h9⟩ := h
  unfold gd
  rw [o 1 (by omega), o 6 (by omega), o 12 (by omega), o 5 (by omega), o 0 (by omega), o 4 (by omega)]
  refine ⟨h1, h2, h3, h4, h5, fun q hq => ?_, h7, h8, h9⟩
  by_cases c : q = e
  · subst c
    rw [zu_ee]
    exact bW_nI (a := 1) (b := 99) rfl rfl (by decide) (by decide) hv
  · rw [zu_en c]; exact h6 q hq
theorem gd.credit {z : Nat → Nat → Int32} {n p c : Nat} (h : gd z n) (hc : c ≤ 9) : gd (zu z 6 p (nI c)) n := by
  have o : ∀ l : Nat, l ≠ 6 → zu z 6 p (nI c) l = z l := fun l hl => zu_o hl
  obtain ⟨h1, h2, h3, h4, h5, h6, h7, h8, h9⟩ := h
  unfold gd
  rw [o 1 (by omega), o 3 (by omega), o 12 (by omega), o 5 (by omega), o 0 (by omega), o 4 (by omega)]
  refine ⟨h1, h2, fun q hq => ?_, h4, h5, h6, h7, h8, h9⟩
  by_cases e : q = p
  · subst e; rw [zu_ee]; exact ⟨c, hc, rfl⟩
  · rw [zu_en e]; exact h3 q hq
theorem gd.grudge {z : Nat → Nat → Int32} {n p c : Nat} (h : gd z n) (hc : c ≤ 9) : gd (zu z 12 p (nI c)) n := by
  have o : ∀ l : Nat, l ≠ 12 → zu z 12 p (nI c) l = z l := fun l hl => zu_o hl
  obtain ⟨h1, h2, h3, h4, h5, h6, h7, h8, h9⟩ := h
  unfold gd
  rw [o 1 (by omega), o 3 (by omega), o 6 (by omega), o 5 (by omega), o 0 (by omega), o 4 (by omega)]
  refine ⟨h1, h2, h3, fun q hq => ?_, h5, h6, h7, h8, h9⟩
  by_cases e : q = p
  · subst e; rw [zu_ee]; exact ⟨c, hc, rfl⟩
  · rw [zu_en e]; exact h4 q hq
theorem gd.use {z : Nat → Nat → Int32} {n p e u : Nat} (h : gd z n) (he : e < n) (hu : u ≤ 9) : gd (zu z 5 (p * 12 + e) (nI u)) n := by
  have o : ∀ l : Nat, l ≠ 5 → zu z 5 (p * 12 + e) (nI u) l = z l := fun l hl => zu_o hl
  obtain ⟨h1, h2, h3, h4, h5, h6, h7, h8, h9⟩ := h
  unfold gd
  rw [o 1 (by omega), o 3 (by omega), o 6 (by omega), o 12 (by omega), o 0 (by omega), o 4 (by omega)]
  refine ⟨h1, h2, h3, h4, fun q hq => ?_, h6, h7, fun p2 e2 hp2 he2 he12 => ?_, h9⟩
  · by_cases c : q = p * 12 + e
    · subst c; rw [zu_ee]; exact ⟨u, hu, rfl⟩
    · rw [zu_en c]; exact h5 q hq
  · rw [zu_en (by omega)]; exact h8 p2 e2 hp2 he2 he12
theorem gd.used {z : Nat → Nat → Int32} {n e : Nat} {v : Int32} (h : gd z n) (he : e < n) : gd (zu z 4 e v) n := by
  have o : ∀ l : Nat, l ≠ 4 → zu z 4 e v l = z l := fun l hl => zu_o hl
  obtain ⟨h1, h2, h3, h4, h5, h6, h7, h8, h9⟩ := h
  unfold gd
  rw [o 1 (by omega), o 3 (by omega), o 6 (by omega), o 12 (by omega), o 0 (by omega), o 5 (by omega)]
  exact ⟨h1, h2, h3, h4, h5, h6, h7, h8, fun q hq h12 => by rw [zu_en (by omega)]; exact h9 q hq h12⟩
theorem mS_set {z : Nat → Nat → Int32} {n k : Nat} {w : Nat → Int32} {v : Int32} (h : mS z n w) (hk : k ≤ 4) (hv : ¬ bW v (pv_t1 k) (pv_t2 k) = 0) : mS (zu z 0 k v) n (va_up w k v) := h.up (k := 0) (i := k) (show k < 5 by omega) v (by decide) (by decide) (h.2.1.set hk hv)
theorem mS_worth {z : Nat → Nat → Int32} {n e : Nat} {w : Nat → Int32} {v : Int32} (h : mS z n w) (he : e < 12) (hv : ¬ bW v 1 99 = 0) : mS (zu z 3 e v) n (va_up w (18 + 3 * e + 1) v) := h.up (k := 3) (i := e) he v (by decide) (by decide) (h.2.1.worth hv)
theorem mS_pay {z : Nat → Nat → Int32} {n p : Nat} {w : Nat → Int32} {pc : Int32} (h : mS z n w) (hp : p < 10) : mS (sPay z p pc) n (va_up (va_up w (54 + 6 * p + 1) (z 7 p - pc)) (54 + 6 * p + 5) (z 8 p + pc)) := by
  have h1 := h.up (k := 7) (i := p) hp (z 7 p - pc) (by decide) (by decide) (h.2.1.free _ (by decide))
  exact h1.up (k := 8) (i := p) hp (z 8 p + pc) (by decide) (by decide) (h1.2.1.free _ (by decide))
theorem mS_add {z : Nat → Nat → Int32} {n : Nat} {w : Nat → Int32} {kd wh : Int32} (h : mS z n w) (hn : n < 12) (hv : ¬ bW wh 1 99 = 0) : mS (sAdd z n kd wh) (n + 1) (va_up (va_up (va_up (va_up w (18 + 3 * n + 0) kd) (18 + 3 * n + 1) wh) (18 + 3 * n + 2) 0) 5 (nI n + 1)) := by
  have a1 := h.1.up (k := 2) (i := n) hn kd
  have a2 := a1.up (k := 3) (i := n) hn wh
  have a3 := a2.up (k := 4) (i := n) hn 0
  have a4 := a3.up (k := 1) (i := 0) rfl (nI n + 1)
  have e4 : z 4 n = 0 := h.2.1.2.2.2.2.2.2.2.2 n (Nat.le_refl n) hn
  refine ⟨a4.congr (fun k i hv => ?_), ?_, ?_, ?_⟩
  · unfold sAdd
    by_cases c1 : k = 1
    · subst c1
      have hi : i = 0 := hv
      subst hi
      rw [zu_ee, zu_ee, nI_1]
    · rw [zu_o c1, zu_o c1]
      by_cases c4 : k = 4
      · subst c4
        by_cases ci : i = n
        · subst ci
          rw [zu_ee, zu_o (by decide), zu_o (by decide), e4]
        · rw [zu_en ci]
      · rw [zu_o c4]
  · have g1 := (h.2.1.free (k := 2) (i := n) kd (by decide)).worth (e := n) hv
    obtain ⟨h1, h2, h3, h4, h5, h6, h7, h8, h9⟩ := g1
    have o : ∀ l : Nat, l ≠ 1 → sAdd z n kd wh l = zu (zu z 2 n kd) 3 n wh l := fun l hl => zu_o hl
    unfold gd
    rw [o 6 (by omega), o 3 (by omega), o 12 (by omega), o 5 (by omega), o 0 (by omega), o 4 (by omega)]
    exact ⟨zu_ee, by omega, h3, h4, h5, h6, h7, fun p e hp he h12 => h8 p e hp (by omega) h12, fun e he h12 => h9 e (by omega) h12⟩
  · rw [va_up_ne _ _ (by omega), va_up_ne _ _ (by omega), va_up_ne _ _ (by omega), va_up_ne _ _ (by omega), h.2.2.1]
    rfl
  · rw [va_up_ne _ _ (by omega), va_up_ne _ _ (by omega), va_up_ne _ _ (by omega), va_up_ne _ _ (by omega), h.2.2.2]
    rfl
