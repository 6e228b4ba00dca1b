/-! the reference's pad, and its reader's contracts -/
def mPut (X : Int64) (g : Nat → Nat → Int32) (pl : Nat) : Nat → Nat → Int32 := if sCh X 8 0 = 0 then g else if pl + sCh X 8 0 ≤ 60 then mApp X g pl (sCh X 8 0) else g
def mSees (ch : Nat → Int32) (s pl : Nat) (lo hi : Int32) : Int32 := if s < pl then bW (ch s) lo hi else 0
section SEES
variable {ch : Nat → Int32} {s pl : Nat} {lo hi : Int32}
theorem mSees_01 : mSees ch s pl lo hi = 0 ∨ mSees ch s pl lo hi = 1 := by
  unfold mSees
  split
  · exact bW_01 _ _ _
  · exact Or.inl rfl
theorem mSees_1 (h : ¬ mSees ch s pl lo hi = 0) : mSees ch s pl lo hi = 1 := mSees_01.resolve_left h
theorem mSees_pos (h : ¬ mSees ch s pl lo hi = 0) : s < pl ∧ ¬ bW (ch s) lo hi = 0 := by
  unfold mSees at h
  by_cases c : s < pl
  · rw [if_pos c] at h; exact ⟨c, h⟩
  · rw [if_neg c] at h; exact absurd rfl h
theorem mSees_neg (h : mSees ch s pl lo hi = 0) : ¬ (s < pl ∧ ¬ bW (ch s) lo hi = 0) := by
  rintro ⟨c, d⟩
  unfold mSees at h
  rw [if_pos c] at h
  exact d h
theorem mSees_b (h : mSees ch s pl lo hi = 0) (hs : s < pl) : bW (ch s) lo hi = 0 := by
  unfold mSees at h
  rwa [if_pos hs] at h
end SEES
theorem nI_m6 {a : Nat} (h : a < 2 ^ 31) : ¬ nI a = -6 := fun q => absurd (congrArg (fun z => decide (z < 0)) q) (by simp only [decide_eq_false (nI_pos h)]; decide)
/-- what readMinutes leaves -/
def mMin (Z : Nat → Nat → Nat → Int32) (g : Nat → Nat → Int32) (ch : Nat → Int32) (pl s s0 : Nat) (r0 : Nat → Nat → Int32) (d e : Nat) : Int32 → (Nat → Nat → Nat → Int32) → Prop := fun v Z2 => ∃ (g2 : Nat → Nat → Int32) (s2 : Nat), Z2 = va_up Z 11 g2 ∧ (∀ l : Nat, l ≠ 7 → l ≠ 10 → g2 l = g l) ∧ g2 7 0 = nI s2 ∧ s ≤ s2 ∧ s2 ≤ pl ∧ ((v = 0 ∧ (cFlt ch (pl - s0) s0 r0).1 = nI s2) ∨ (v = 1 ∧ ∃ r2 : Nat → Nat → Int32, Run ch pl s0 r0 s2 r2 ∧ (r2 0 0 = 4 ∧ (s2 < pl → rDig (ch s2) = 0) ∨ r2 0 0 = 5) ∧ r2 1 0 = nI d ∧ r2 2 0 = nI e ∧ r2 4 0 = -6 ∧ g2 10 0 = r2 3 0))
/-- what readOffer leaves -/
def mOff (Z : Nat → Nat → Nat → Int32) (g : Nat → Nat → Int32) (ch : Nat → Int32) (pl s : Nat) (r0 : Nat → Nat → Int32) : Int32 → (Nat → Nat → Nat → Int32) → Prop := fun v Z2 => ∃ (g2 : Nat → Nat → Int32) (s2 : Nat), Z2 = va_up Z 11 g2 ∧ (∀ l : Nat, l < 7 → g2 l = g l) ∧ g2 7 0 = nI s2 ∧ s2 ≤ pl ∧ ((v = 0 ∧ (cFlt ch (pl - s) s r0).1 = nI s2) ∨ (v = 1 ∧ s < s2 ∧ ∃ (r2 : Nat → Nat → Int32) (p e : Nat), Run ch pl s r0 s2 r2 ∧ rDone r2 ∧ p < 10 ∧ e < 12 ∧ r2 1 0 = nI p ∧ r2 2 0 = nI e ∧ (r2 4 0 = -6 ∨ ∃ w : Nat, w < 10 ∧ r2 4 0 = nI w) ∧ g2 8 0 = nI p ∧ g2 9 0 = nI e ∧ g2 10 0 = r2 3 0 ∧ g2 11 0 = r2 4 0 ∧ (s2 < pl → ¬ ch s2 = 44 → rB r2 (ch s2) = 0)))
/-- what readPad leaves -/
def mPad (Z : Nat → Nat → Nat → Int32) (g : Nat → Nat → Int32) (ch : Nat → Int32) (pl : Nat) (r0 : Nat → Nat → Int32) (off : Int32) (z : Nat → Nat → Int32) (n : Nat) : Int32 → (Nat → Nat → Nat → Int32) → Prop := fun v Z2 => ∃ (g2 : Nat → Nat → Int32) (s2 : Nat), Z2 = va_up Z 11 g2 ∧ (∀ l : Nat, 1 ≤ l → l < 7 → g2 l = g l) ∧ (off = 0 → g2 0 = g 0) ∧ g2 7 0 = nI s2 ∧ s2 ≤ pl ∧ ((v = -6 ∧ (cFlt ch pl 0 r0).1 = nI s2) ∨ (¬ v = -6 ∧ (cFlt ch pl 0 r0).1 = -6 ∧ (off = 1 → mS (cRd ch pl 0 z r0 0).1 n (g2 0) ∧ v = (cRd ch pl 0 z r0 0).2.2)))
/-- what holds of its table whatever is read -/
def mPB (g : Nat → Nat → Int32) (ch : Nat → Int32) (pl : Nat) (r0 : Nat → Nat → Int32) (off : Int32) (n : Nat) (G z2 r : Nat → Nat → Int32) (s k : Nat) : Prop := (∀ l : Nat, 1 ≤ l → l < 7 → G l = g l) ∧ (off = 0 → G 0 = g 0) ∧ G 7 0 = nI s ∧ s ≤ pl ∧ k ≤ s ∧ (cFlt ch pl 0 r0).1 = (cFlt ch (pl - s) s r).1 ∧ (off = 1 → mS z2 n (G 0))
/-- at the head of readPad's loop -/
def mPI (g : Nat → Nat → Int32) (ch : Nat → Int32) (pl : Nat) (r0 : Nat → Nat → Int32) (off : Int32) (z : Nat → Nat → Int32) (n : Nat) (G z2 r : Nat → Nat → Int32) (s k : Nat) (b : Int32) : Prop := mPB g ch pl r0 off n G z2 r s k ∧ ((b = 1 ∧ r 0 0 = 0 ∧ r 4 0 = -6 ∧ (off = 1 → cRd ch pl 0 z r0 0 = cRd ch (pl - s) s z2 r (nI k))) ∨ (b = 0 ∧ rEnd r = 1 ∧ (s < pl → rB r (ch s) = 0) ∧ (off = 1 → s = pl → (cRd ch pl 0 z r0 0).1 = z2 ∧ (cRd ch pl 0 z r0 0).2.2 = nI k)))
/-- behind an offer -/
def mPO (g : Nat → Nat → Int32) (ch : Nat → Int32) (pl : Nat) (r0 : Nat → Nat → Int32) (off : Int32) (z : Nat → Nat → Int32) (n : Nat) (G z3 r : Nat → Nat → Int32) (s k : Nat) : Prop := mPB g ch pl r0 off n G z3 r s k ∧ rDone r ∧ (s < pl → ¬ ch s = 44 → rB r (ch s) = 0) ∧ (off = 1 → ∃ (z2 : Nat → Nat → Int32) (t : Int32), cRd ch pl 0 z r0 0 = cRd ch (pl - s) s z2 r t ∧ z3 = oZ z2 r ∧ nI k = t + oB z2 r)
theorem mPO_comma {g : Nat → Nat → Int32} {ch : Nat → Int32} {pl : Nat} {r0 : Nat → Nat → Int32} {off : Int32} {z : Nat → Nat → Int32} {n : Nat} {G z3 r : Nat → Nat → Int32} {s k : Nat} (h : mPO g ch pl r0 off z n G z3 r s k) (hs : s < pl) (hc : ch s = 44) : mPI g ch pl r0 off z n (zu G 7 0 (nI (s + 1))) z3 (rT r 44) (s + 1) k 1 := by
  obtain ⟨⟨h1, h2, h3, h4, h5, h6, h7⟩, ⟨d1, d2, d3, d4⟩, h8, h9⟩ := h
  have e : pl - s = (pl - (s + 1)) + 1 := by omega
  have hB : ¬ rB r (ch s) = 0 := by rw [hc, d2]; decide
  refine ⟨⟨fun l hl hl7 => (zu_o (by omega)).trans (h1 l hl hl7), fun q => (zu_o (by decide)).trans (h2 q), zu_ee, by omega, by omega, ?_, fun q => by rw [zu_o (by decide)]; exact h7 q⟩, Or.inl ⟨rfl, d3, d4, fun q => ?_⟩⟩
  · rw [h6, e]; simp only [cFlt, hB, if_false]; rw [hc]
  · obtain ⟨z2, t, e1, e2, e3⟩ := h9 q
    rw [e1, e]; simp only [cRd, hc, if_true]; rw [e2, e3]
theorem mPO_no {g : Nat → Nat → Int32} {ch : Nat → Int32} {pl : Nat} {r0 : Nat → Nat → Int32} {off : Int32} {z : Nat → Nat → Int32} {n : Nat} {G z3 r : Nat → Nat → Int32} {s k : Nat} (h : mPO g ch pl r0 off z n G z3 r s k) (hc : ¬ (s < pl ∧ ch s = 44)) : mPI g ch pl r0 off z n (zu G 7 0 (nI s)) z3 r s k 0 := by
  obtain ⟨⟨h1, h2, h3, h4, h5, h6, h7⟩, ⟨d1, d2, d3, d4⟩, h8, h9⟩ := h
  refine ⟨⟨fun l hl hl7 => (zu_o (by omega)).trans (h1 l hl hl7), fun q => (zu_o (by decide)).trans (h2 q), zu_ee, h4, h5, h6, fun q => by rw [zu_o (by decide)]; exact h7 q⟩, Or.inr ⟨rfl, d1, fun q => h8 q (fun q2 => hc ⟨q, q2⟩), fun q q2 => ?_⟩⟩
  obtain ⟨z2, t, e1, e2, e3⟩ := h9 q
  subst q2
  rw [e1, Nat.sub_self, e2, e3]
  exact ⟨rfl, rfl⟩
theorem mPI_0 {g : Nat → Nat → Int32} {ch : Nat → Int32} {pl : Nat} {r0 : Nat → Nat → Int32} {off : Int32} {z : Nat → Nat → Int32} {n : Nat} (h0 : r0 0 0 = 0) (h4 : r0 4 0 = -6) (hS : off = 1 → mS z n (g 0)) : mPI g ch pl r0 off z n (zu g 7 0 0) z r0 0 0 1 :=
  ⟨⟨fun l _ h7 => zu_o (by omega), fun _ => zu_o (by decide), zu_ee, Nat.zero_le _, Nat.le_refl _, rfl, fun q => by rw [zu_o (by decide)]; exact hS q⟩, Or.inl ⟨rfl, h0, h4, fun _ => rfl⟩⟩
/-- an offer read: the table g2, the row 0 that follows G3, the uses u -/
theorem mPI_off {g : Nat → Nat → Int32} {ch : Nat → Int32} {pl : Nat} {r0 : Nat → Nat → Int32} {off : Int32} {z : Nat → Nat → Int32} {n : Nat} {G z2 r : Nat → Nat → Int32} {s k : Nat} {b : Int32} (h : mPI g ch pl r0 off z n G z2 r s k b) (hb : b = 1) {g2 G3 z3 r2 : Nat → Nat → Int32} {s2 k3 : Nat} (hg : ∀ l : Nat, l < 7 → g2 l = G l) (hs : s < s2) (hpl : s2 ≤ pl) (hR : Run ch pl s r s2 r2) (hD : rDone r2) (hN : s2 < pl → ¬ ch s2 = 44 → rB r2 (ch s2) = 0) (h7 : G3 7 0 = nI s2) (h3 : ∀ l : Nat, l ≠ 0 → G3 l = g2 l) (h30 : off = 0 → G3 0 = g2 0) (hk3 : k3 ≤ k + 1) (h31 : off = 1 → mS z3 n (G3 0) ∧ z3 = oZ z2 r2 ∧ nI k3 = nI k + oB z2 r2) : mPO g ch pl r0 off z n G3 z3 r2 s2 k3 := by
  obtain ⟨⟨a1, a2, a3, a4, a5, a6, a7⟩, hbb⟩ := h
  have hb1 := hbb.resolve_right (fun q => by rw [hb] at q; exact absurd q.1 (by decide))
  refine ⟨⟨fun l hl hl7 => (h3 l (by omega)).trans ((hg l hl7).trans (a1 l hl hl7)), fun q => (h30 q).trans ((hg 0 (by decide)).trans (a2 q)), h7, hpl, by omega, a6.trans hR.2.2.1, fun q => (h31 q).1⟩, hD, hN, fun q => ⟨z2, nI k, (hb1.2.2.2 q).trans (hR.2.2.2 z2 (nI k)), (h31 q).2⟩⟩
theorem mPI_mS {g : Nat → Nat → Int32} {ch : Nat → Int32} {pl : Nat} {r0 : Nat → Nat → Int32} {off : Int32} {z : Nat → Nat → Int32} {n : Nat} {G z2 r : Nat → Nat → Int32} {s k : Nat} {b : Int32} (h : mPI g ch pl r0 off z n G z2 r s k b) (ho : off = 1) {g2 : Nat → Nat → Int32} (hg : ∀ l : Nat, l < 7 → g2 l = G l) : mS z2 n (g2 0) := by
  rw [hg 0 (by decide)]
  exact h.1.2.2.2.2.2.2 ho
/-- the ends of readPad -/
theorem mPI_bad {Z : Nat → Nat → Nat → Int32} {g : Nat → Nat → Int32} {ch : Nat → Int32} {pl : Nat} {r0 : Nat → Nat → Int32} {off : Int32} {z : Nat → Nat → Int32} {n : Nat} {G z2 r : Nat → Nat → Int32} {s k : Nat} {b : Int32} (h : mPI g ch pl r0 off z n G z2 r s k b) {g2 : Nat → Nat → Int32} {s2 : Nat} (hg : ∀ l : Nat, l < 7 → g2 l = G l) (h7 : g2 7 0 = nI s2) (hpl : s2 ≤ pl) (hF : (cFlt ch (pl - s) s r).1 = nI s2) : mPad Z g ch pl r0 off z n (-6) (va_up Z 11 g2) :=
  ⟨g2, s2, rfl, fun l hl hl7 => (hg l hl7).trans (h.1.1 l hl hl7), fun q => (hg 0 (by decide)).trans (h.1.2.1 q), h7, hpl, Or.inl ⟨rfl, h.1.2.2.2.2.2.1.trans hF⟩⟩
theorem mPI_end {Z : Nat → Nat → Nat → Int32} {g : Nat → Nat → Int32} {ch : Nat → Int32} {pl : Nat} {r0 : Nat → Nat → Int32} {off : Int32} {z : Nat → Nat → Int32} {n : Nat} {G z2 r : Nat → Nat → Int32} {s k : Nat} {b : Int32} (h : mPI g ch pl r0 off z n G z2 r s k b) (hb : b = 0) (hp60 : pl ≤ 60) : (s = pl → mPad Z g ch pl r0 off z n (nI k) (va_up Z 11 G)) ∧ (¬ s = pl → mPad Z g ch pl r0 off z n (-6) (va_up Z 11 G)) := by
  obtain ⟨⟨a1, a2, a3, a4, a5, a6, a7⟩, hbb⟩ := h
  obtain ⟨-, b2, b3, b4⟩ := hbb.resolve_left (fun q => by rw [hb] at q; exact absurd q.1 (by decide))
  have hend : ¬ rEnd r = 0 := by rw [b2]; decide
  constructor
  · intro q
    refine ⟨G, s, rfl, a1, a2, a3, a4, Or.inr ⟨nI_m6 (by omega), ?_, fun ho => ?_⟩⟩
    · rw [a6, q, Nat.sub_self]; simp only [cFlt, hend, if_false]
    · obtain ⟨e1, e2⟩ := b4 ho q
      rw [e1, e2]; exact ⟨a7 ho, rfl⟩
  · intro q
    refine ⟨G, s, rfl, a1, a2, a3, a4, Or.inl ⟨rfl, ?_⟩⟩
    have hB := b3 (by omega)
    rw [a6, show pl - s = (pl - (s + 1)) + 1 by omega]
    simp only [cFlt, hB, if_true]
theorem add_m6 : (-6 : Int32) + 1 = -5 := by decide
theorem ofz {z r : Nat → Nat → Int32} {p e : Nat} (h1 : r 1 0 = nI p) (h2 : r 2 0 = nI e) (hp : p < 10) (he : e < 12) : (bH z (nI e) = 0 → oZ z r = z ∧ oB z r = 0) ∧ (¬ bH z (nI e) = 0 → oZ z r = sOffer z p e (r 4 0) (r 3 0) ∧ oB z r = (if sReason z p e (r 4 0) (r 3 0) = 0 then 1 else 0)) := by
  have c1 : cl (nI p) = p := cl_nI (by omega)
  have c2 : cl (nI e) = e := cl_nI (by omega)
  constructor
  · intro h
    unfold oZ oB
    rw [h2, if_pos h, if_pos h]
    exact ⟨rfl, rfl⟩
  · intro h
    unfold oZ oB
    rw [h1, h2, if_neg h, if_neg h, c1, c2]
    exact ⟨rfl, rfl⟩
theorem zu_rows {g g2 : Nat → Nat → Int32} {n : Nat} (h : ∀ l : Nat, l < n → g2 l = g l) (k j : Nat) (hk : k < n) (v : Int32) : ∀ l : Nat, l < n → zu g2 k j v l = zu g k j v l := fun l hl => by
  by_cases c : l = k
  · subst c; rw [zu_e, zu_e, h l hl]
  · rw [zu_o c, zu_o c, h l hl]
theorem zc_rows {g g2 : Nat → Nat → Int32} {n : Nat} (h : ∀ l : Nat, l < n → g2 l = g l) (k : Nat) (r : Nat → Int32) : ∀ l : Nat, l < n → zc g2 k r l = zc g k r l := fun l hl => by
  unfold zc va_up
  split
  · rfl
  · exact h l hl
theorem mSh_rows {g g2 : Nat → Nat → Int32} (h : ∀ l : Nat, l < 7 → g2 l = g l) : ∀ k l : Nat, l < 7 → mSh g2 k l = mSh g k l
  | 0 => h
  | k + 1 => by
    have ih := mSh_rows h k
    intro l hl
    show zu (mSh g2 k) 1 k (mSh g2 k 1 (k + 234)) l = zu (mSh g k) 1 k (mSh g k 1 (k + 234)) l
    rw [ih 1 (by decide)]
    exact zu_rows ih 1 k (by decide) _ l hl
theorem mPush_rows {g g2 : Nat → Nat → Int32} (h : ∀ l : Nat, l < 7 → g2 l = g l) (st : Nat) : ∀ l : Nat, l < 7 → mPush g2 st l = mPush g st l := by
  unfold mPush
  rw [h 0 (by decide), h 1 (by decide)]
  exact zu_rows (zc_rows h 1 _) 2 0 (by decide) _
theorem mRec_rows {g g2 : Nat → Nat → Int32} (h : ∀ l : Nat, l < 7 → g2 l = g l) (st : Nat) : ∀ l : Nat, l < 7 → mRec g2 st l = mRec g st l := by
  unfold mRec
  by_cases c : st = 6
  · rw [if_pos c, if_pos c]; exact mPush_rows (zu_rows (mSh_rows h 1170) 2 0 (by decide) _) 5
  · rw [if_neg c, if_neg c]; exact mPush_rows h st
/-- what read leaves -/
def mRead (Z : Nat → Nat → Nat → Int32) (g : Nat → Nat → Int32) (ch : Nat → Int32) (pl : Nat) (r0 z : Nat → Nat → Int32) (n sn : Nat) : Int32 → (Nat → Nat → Nat → Int32) → Prop := fun v Z2 => ∃ g2 : Nat → Nat → Int32, Z2 = va_up Z 11 g2 ∧ ((¬ (cFlt ch pl 0 r0).1 = -6 ∧ v = -3 ∧ ∀ l : Nat, l < 7 → g2 l = g l) ∨ ((cFlt ch pl 0 r0).1 = -6 ∧ v = (cRd ch pl 0 z r0 0).2.2 ∧ mS (cRd ch pl 0 z r0 0).1 n (g2 0) ∧ g2 6 0 = 0 ∧ ∀ l : Nat, 1 ≤ l → l < 6 → g2 l = mRec g sn l))
theorem rows0 {g g2 : Nat → Nat → Int32} (h0 : g2 0 = g 0) (h1 : ∀ l : Nat, 1 ≤ l → l < 7 → g2 l = g l) : ∀ l : Nat, l < 7 → g2 l = g l := fun l hl => by
  rcases Nat.eq_zero_or_pos l with rfl | q
  · exact h0
  · exact h1 l q hl
