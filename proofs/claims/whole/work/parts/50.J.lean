/-! ===== the class beside the reference: what holds of the whole table Z (group 11 the reference) between two calls ===== -/
theorem gd.congr {z z2 : Nat → Nat → Int32} {n : Nat} (h : gd z n) (he : ∀ k i : Nat, mv k i → z k i = z2 k i) : gd z2 n := by
  obtain ⟨h1, h2, h3, h4, h5, h6, ⟨h7, h8, h9⟩, h10, h11⟩ := h
  refine ⟨(he 1 0 rfl) ▸ h1, h2, fun p hp => ?_, fun m hm => ?_, fun j hj => ?_, fun e hh => ?_, ⟨?_, ?_, ?_⟩, fun p e hp h1 h2 => ?_, fun e h1 h2 => ?_⟩
  · rw [← he 6 p hp]; exact h3 p hp
  · rw [← he 12 m hm]; exact h4 m hm
  · rw [← he 5 j hj]; exact h5 j hj
  · rw [← he 3 e hh]; exact h6 e hh
  · rw [← he 0 1 (show 1 < 5 by decide)]; exact h7
  · rw [← he 0 2 (show 2 < 5 by decide)]; exact h8
  · rw [← he 0 4 (show 4 < 5 by decide)]; exact h9
  · rw [← he 5 (p * 12 + e) (show p * 12 + e < 120 by omega)]; exact h10 p e hp h1 h2
  · rw [← he 4 e h2]; exact h11 e h1 h2
theorem mS.congr {z z2 : Nat → Nat → Int32} {n : Nat} {w w2 : Nat → Int32} (h : mS z n w) (he : ∀ k i : Nat, mv k i → z k i = z2 k i) (hw : ∀ j : Nat, j < 234 → w j = w2 j) : mS z2 n w2 := by
  obtain ⟨h1, h2, h3, h4⟩ := h
  refine ⟨fun k i hv => ?_, h2.congr he, ?_, ?_⟩
  · rw [← hw _ (mp_lt hv), h1 k i hv]; exact he k i hv
  · rw [← hw 6 (by decide), h3]; exact bx_congr (fun k hk => he 9 k hk)
  · rw [← hw 12 (by decide), h4]; exact bx_congr (fun k hk => he 5 k hk)
theorem va_cpy0 {f g : Nat → Int32} {n i : Nat} (h : i < n) : va_cpy f g 0 0 n i = f i := by
  unfold va_cpy
  rw [if_pos ⟨by omega, by omega⟩, Nat.sub_zero, Nat.zero_add]
theorem sBec_at {z w : Nat → Nat → Int32} {k i : Nat} (h : mv k i) : sBec z w k i = w k i := by
  have hk := mv_lt h
  rcases (show k = 0 ∨ k = 1 ∨ k = 2 ∨ k = 3 ∨ k = 4 ∨ k = 5 ∨ k = 6 ∨ k = 7 ∨ k = 8 ∨ k = 9 ∨ k = 10 ∨ k = 11 ∨ k = 12 ∨ k = 13 ∨ k = 14 by omega) with rfl | rfl | rfl | rfl | rfl | rfl | rfl | rfl | rfl | rfl | rfl | rfl | rfl | rfl | rfl
  · exact va_cpy0 (n := 5) h
  · have h : i = 0 := h; subst h; rfl
  · exact va_cpy0 (n := 12) h
  · exact va_cpy0 (n := 12) h
  · exact va_cpy0 (n := 12) h
  · exact va_cpy0 (n := 120) h
  · exact va_cpy0 (n := 10) h
  · exact va_cpy0 (n := 10) h
  · exact va_cpy0 (n := 10) h
  · exact va_cpy0 (n := 10) h
  · exact va_cpy0 (n := 10) h
  · exact va_cpy0 (n := 10) h
  · exact va_cpy0 (n := 5) h
  · have h : 1 ≤ i ∧ i ≤ 4 := h; exact va_cpy0 (n := 5) (by omega)
  · have h : i = 0 := h; subst h; rfl
theorem mS.bec {z w : Nat → Nat → Int32} {n : Nat} {r : Nat → Int32} (h : mS w n r) : mS (sBec z w) n r := h.congr (fun _ _ hv => (sBec_at hv).symm) (fun _ _ => rfl)
def JH (Z : Nat → Nat → Nat → Int32) (g : Nat → Nat → Int32) (nx kp : Nat) : Prop := ∀ i : Nat, i < kp → ∃ m : Nat, mS (Z (1 + (nx + 6 - kp + i) % 6)) m (fun j => g 1 (234 * i + j))
def JS (Z : Nat → Nat → Nat → Int32) (g : Nat → Nat → Int32) : Prop := ∀ j : Nat, j < 2 → g 4 j = Z 12 4 j ∧ (¬ Z 12 4 j = 0 → ∃ m : Nat, mS (Z (7 + j)) m (fun i => g 3 (234 * j + i)))
def JP (Z : Nat → Nat → Nat → Int32) (g : Nat → Nat → Int32) (pl : Nat) : Prop := Z 9 1 0 = nI pl ∧ g 6 0 = nI pl ∧ pl ≤ 60 ∧ ∀ j : Nat, j < pl → g 5 j = Z 9 0 j
def JI (Z : Nat → Nat → Nat → Int32) (n nx kp pl : Nat) : Prop := mS (Z 0) n (Z 11 0) ∧ (nx < 6 ∧ kp ≤ 6 ∧ Z 12 1 0 = nI nx ∧ Z 12 2 0 = nI kp ∧ Z 11 2 0 = nI kp) ∧ JH Z (Z 11) nx kp ∧ JS Z (Z 11) ∧ JP Z (Z 11) pl
section JAY
variable {Z Z' : Nat → Nat → Nat → Int32} {n nx kp pl n' pl' : Nat}
theorem mRec_2 (g : Nat → Nat → Int32) {st : Nat} (h : st ≤ 6) : mRec g st 2 0 = nI (min 6 (st + 1)) := by
  unfold mRec mPush
  by_cases c : st = 6
  · rw [if_pos c, zu_ee, c]; rfl
  · rw [if_neg c, zu_ee, Nat.min_eq_right (by omega)]
theorem mRec_1 (g : Nat → Nat → Int32) {st : Nat} (h : st ≤ 6) {i j : Nat} (hi : i < min 6 (st + 1)) (hj : j < 234) : mRec g st 1 (234 * i + j) = if i + 1 = min 6 (st + 1) then g 0 j else if st = 6 then g 1 (234 * (i + 1) + j) else g 1 (234 * i + j) := by
  unfold mRec mPush zc
  by_cases c : st = 6
  · rw [if_pos c, zu_o (by decide), va_up_e, cS_at, zu_o (by decide), zu_o (by decide), mSh_o g (by decide), mSh_at]
    rw [c] at hi ⊢
    have e6 : min 6 (6 + 1) = 6 := by decide
    rw [e6] at hi ⊢
    by_cases d : i + 1 = 6
    · rw [if_pos (by omega), if_pos d]; exact congrArg (g 0) (by omega)
    · rw [if_neg (by omega), if_neg d, if_pos (by omega), if_pos rfl]; exact congrArg (g 1) (by omega)
  · rw [if_neg c, zu_o (by decide), va_up_e, cS_at]
    have e6 : min 6 (st + 1) = st + 1 := Nat.min_eq_right (by omega)
    rw [e6] at hi ⊢
    by_cases d : i + 1 = st + 1
    · rw [if_pos (by omega), if_pos d]; exact congrArg (g 0) (by omega)
    · rw [if_neg (by omega), if_neg d, if_neg c]
/-- a change: the state before is kept, z2 is the school in use -/
theorem J_keep (h : JI Z n nx kp pl) {z2 : Nat → Nat → Int32} (h0 : Z' 0 = z2) (h18 : ∀ i : Nat, i < 8 → Z' (1 + i) = sKeep Z nx kp (1 + i)) (h12 : Z' 12 = sKeep Z nx kp 12) (hz : mS z2 n' (Z' 11 0)) (hr : ∀ l : Nat, 1 ≤ l → l < 6 → Z' 11 l = mRec (Z 11) kp l) (hP : JP Z' (Z' 11) pl') : JI Z' n' ((nx + 1) % 6) (min 6 (kp + 1)) pl' := by
  obtain ⟨a1, ⟨b1, b2, b3, b4, b5⟩, c1, d1, e1⟩ := h
  have k12 : sKeep Z nx kp 12 = sRing (Z 12) ((nx + 1) % 6) (min 6 (kp + 1)) := by unfold sKeep; rw [va_up_e]
  have kh : ∀ i : Nat, i < 8 → sKeep Z nx kp (1 + i) = if i = nx then sBec (Z (1 + nx)) (Z 0) else Z (1 + i) := fun i hi => by
    unfold sKeep
    rw [va_up_ne _ _ (show 1 + i ≠ 12 by omega)]
    by_cases c : i = nx
    · subst c; rw [va_up_e, if_pos rfl]
    · rw [va_up_ne _ _ (by omega), if_neg c]
  refine ⟨by rw [h0]; exact hz, ⟨Nat.mod_lt _ (by decide), Nat.min_le_left _ _, by rw [h12, k12]; rfl, by rw [h12, k12]; rfl, by rw [hr 2 (by decide) (by decide)]; exact mRec_2 _ b2⟩, fun i hi => ?_, fun j hj => ?_, hP⟩
  · have er : ∀ j : Nat, j < 234 → Z' 11 1 (234 * i + j) = if i + 1 = min 6 (kp + 1) then Z 11 0 j else if kp = 6 then Z 11 1 (234 * (i + 1) + j) else Z 11 1 (234 * i + j) := fun j hj => by
      rw [hr 1 (by decide) (by decide)]; exact mRec_1 _ b2 hi hj
    have hm : min 6 (kp + 1) = if kp = 6 then 6 else kp + 1 := by split <;> omega
    have hx : ((nx + 1) % 6 + 6 - min 6 (kp + 1) + i) % 6 = if i + 1 = min 6 (kp + 1) then nx else if kp = 6 then (nx + 6 - kp + (i + 1)) % 6 else (nx + 6 - kp + i) % 6 := by
      rw [hm] at hi ⊢
      by_cases c6 : kp = 6
      · simp only [if_pos c6] at hi ⊢
        split <;> omega
      · simp only [if_neg c6] at hi ⊢
        split <;> omega
    rw [h18 _ (by omega), kh _ (by omega)]
    by_cases c : i + 1 = min 6 (kp + 1)
    · rw [if_pos c] at hx
      rw [hx, if_pos rfl]
      exact ⟨n, (a1.congr (fun _ _ _ => rfl) (fun j hj => by rw [er j hj, if_pos c])).bec⟩
    · rw [if_neg c] at hx
      by_cases c6 : kp = 6
      · rw [if_pos c6] at hx
        have hne : ((nx + 1) % 6 + 6 - min 6 (kp + 1) + i) % 6 ≠ nx := by rw [hx]; omega
        rw [if_neg hne, hx]
        obtain ⟨m, hm2⟩ := c1 (i + 1) (by omega)
        exact ⟨m, hm2.congr (fun _ _ _ => rfl) (fun j hj => by rw [er j hj, if_neg c, if_pos c6])⟩
      · rw [if_neg c6] at hx
        have hi2 : i < kp := by omega
        have hne : ((nx + 1) % 6 + 6 - min 6 (kp + 1) + i) % 6 ≠ nx := by rw [hx]; omega
        rw [if_neg hne, hx]
        obtain ⟨m, hm2⟩ := c1 i hi2
        exact ⟨m, hm2.congr (fun _ _ _ => rfl) (fun j hj => by rw [er j hj, if_neg c, if_neg c6])⟩
  · obtain ⟨f1, f2⟩ := d1 j hj
    have e12 : Z' 12 4 j = Z 12 4 j := by rw [h12, k12]; rfl
    have e4 : Z' 11 4 = Z 11 4 := by rw [hr 4 (by decide) (by decide), mRec_o _ _ (by decide) (by decide)]
    have e3 : Z' 11 3 = Z 11 3 := by rw [hr 3 (by decide) (by decide), mRec_o _ _ (by decide) (by decide)]
    have e7 : Z' (7 + j) = Z (7 + j) := by
      rw [show 7 + j = 1 + (6 + j) by omega, h18 _ (by omega), kh _ (by omega), if_neg (by omega)]
    rw [e12, e4, e3, e7]
    exact ⟨f1, f2⟩
/-- nothing that counts has changed -/
theorem J_same (h : JI Z n nx kp pl) (h9 : ∀ i : Nat, i < 10 → Z' i = Z i) (h12 : Z' 12 = Z 12) (hr : ∀ l : Nat, l < 7 → Z' 11 l = Z 11 l) : JI Z' n nx kp pl := by
  obtain ⟨a1, ⟨b1, b2, b3, b4, b5⟩, c1, d1, e1, e2, e3, e4⟩ := h
  refine ⟨by rw [h9 0 (by decide), hr 0 (by decide)]; exact a1, ⟨b1, b2, by rw [h12]; exact b3, by rw [h12]; exact b4, by rw [hr 2 (by decide)]; exact b5⟩, fun i hi => ?_, fun j hj => ?_, by rw [h9 9 (by decide)]; exact e1, by rw [hr 6 (by decide)]; exact e2, e3, fun j hj => by rw [hr 5 (by decide), h9 9 (by decide)]; exact e4 j hj⟩
  · rw [h9 _ (by omega), hr 1 (by decide)]; exact c1 i hi
  · rw [h12, hr 4 (by decide), hr 3 (by decide), h9 _ (by omega)]; exact d1 j hj
/-- the pad alone has changed -/
theorem J_pad (h : JI Z n nx kp pl) (h9 : ∀ i : Nat, i < 9 → Z' i = Z i) (h12 : Z' 12 = Z 12) (hr : ∀ l : Nat, l < 5 → Z' 11 l = Z 11 l) (hP : JP Z' (Z' 11) pl') : JI Z' n nx kp pl' := by
  obtain ⟨a1, ⟨b1, b2, b3, b4, b5⟩, c1, d1, -⟩ := h
  refine ⟨by rw [h9 0 (by decide), hr 0 (by decide)]; exact a1, ⟨b1, b2, by rw [h12]; exact b3, by rw [h12]; exact b4, by rw [hr 2 (by decide)]; exact b5⟩, fun i hi => ?_, fun j hj => ?_, hP⟩
  · rw [h9 _ (by omega), hr 1 (by decide)]; exact c1 i hi
  · rw [h12, hr 4 (by decide), hr 3 (by decide), h9 _ (by omega)]; exact d1 j hj
end JAY
