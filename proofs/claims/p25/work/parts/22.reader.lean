theorem i_dec (x : Int32) : x + Int32.ofInt (-1) = x - 1 := by rw [Int32.sub_eq_add_neg]; rfl
theorem nI_char {a : Nat} (h : a < 65536) : ((nI a).toUInt32 % 65536).toInt32 = nI a := by rw [pk_char, pk_tn (by omega), Nat.mod_eq_of_lt h]
theorem nI_nar {a : Nat} (h : a < 65536) : vp_nar .char (nI a) = nI a := by
  unfold vp_nar
  rw [(pk_charN h).1]
theorem va_up_up {α : Type} (f : Nat → α) (k : Nat) (v w : α) : va_up (va_up f k v) k w = va_up f k w := bx_uu f k v w
theorem va_up_sw {α : Type} (f : Nat → α) {i j : Nat} (a b : α) (h : i ≠ j) : va_up (va_up f i a) j b = va_up (va_up f j b) i a := by
  funext k
  simp only [va_up]
  by_cases h1 : k = j
  · subst h1; simp [Ne.symm h]
  · by_cases h2 : k = i
    · subst h2; simp [h]
    · simp [h1, h2]
/-- the first place that cannot stand, and the reader that stops there -/
def cFlt (ch : Nat → Int32) : Nat → Nat → (Nat → Nat → Int32) → Int32 × (Nat → Nat → Int32)
  | 0, i, r => (if rEnd r = 0 then nI i else -6, r)
  | m + 1, i, r => if rB r (ch i) = 0 then (nI i, rT r (ch i)) else cFlt ch m (i + 1) (rT r (ch i))
def oB (z r : Nat → Nat → Int32) : Int32 := if bH z (r 2 0) = 0 then 0 else if sReason z (cl (r 1 0)) (cl (r 2 0)) (r 4 0) (r 3 0) = 0 then 1 else 0
def oZ (z r : Nat → Nat → Int32) : Nat → Nat → Int32 := if bH z (r 2 0) = 0 then z else sOffer z (cl (r 1 0)) (cl (r 2 0)) (r 4 0) (r 3 0)
/-- the offers of a text without a fault -/
def cRd (ch : Nat → Int32) : Nat → Nat → (Nat → Nat → Int32) → (Nat → Nat → Int32) → Int32 → (Nat → Nat → Int32) × (Nat → Nat → Int32) × Int32
  | 0, _, z, r, t => (oZ z r, r, t + oB z r)
  | m + 1, i, z, r, t => if ch i = 44 then cRd ch m (i + 1) (oZ z r) (rT r (ch i)) (t + oB z r) else cRd ch m (i + 1) z (rT r (ch i)) t
theorem bW_off {c lo hi : Int32} {a b : Nat} (hlo : lo = nI a) (hhi : hi = nI b) (hab : a ≤ b) (hb : b < 2 ^ 20) (h : ¬ bW c lo hi = 0) : ∃ d : Nat, d ≤ b - a ∧ c = nI (a + d) ∧ c - lo = nI d := by
  subst hlo; subst hhi
  obtain ⟨h1, h2⟩ := bW_pos h
  have h0 : ¬ c < 0 := fun q => h1 (Int32.lt_of_lt_of_le q (nI_pos' (by omega)))
  obtain ⟨j, hj, rfl⟩ := nI_of h0
  have g1 : a ≤ j := Nat.le_of_not_lt (fun q => h1 ((nI_ltI hj (by omega)).mpr q))
  have g2 : j ≤ b := Nat.le_of_not_lt (fun q => h2 ((nI_ltI (by omega) hj).mpr q))
  refine ⟨j - a, by omega, by rw [show a + (j - a) = j by omega], pk_sub g1⟩
def rInv (r : Nat → Nat → Int32) : Prop := ∃ pl : Nat, pl ≤ 7 ∧ r 0 0 = nI pl ∧ (1 ≤ pl → ∃ p : Nat, p < 10 ∧ r 1 0 = nI p) ∧ (2 ≤ pl → ∃ e : Nat, e < 12 ∧ r 2 0 = nI e) ∧ (r 4 0 = -6 ∨ ∃ w : Nat, w < 10 ∧ r 4 0 = nI w)
theorem rInv_begin (r : Nat → Nat → Int32) : rInv (rBegin r) := ⟨0, by decide, rfl, fun h => absurd h (by decide), fun h => absurd h (by decide), Or.inl rfl⟩
theorem rDig_d {c : Int32} (h : ¬ rDig c = 0) : ∃ d : Nat, d < 10 ∧ c = nI (48 + d) ∧ c - 48 = nI d := by
  obtain ⟨d, h1, h2, h3⟩ := bW_off (a := 48) (b := 57) rfl rfl (by decide) (by decide) h
  exact ⟨d, by omega, h2, h3⟩
theorem rComma_inv {r : Nat → Nat → Int32} {c : Int32} (h : ¬ bE c 44 = 0) : rInv (rComma r c) := by
  have hc : c = 44 := by
    unfold bE at h
    by_cases q : c = 44
    · exact q
    · rw [if_neg q] at h; exact absurd rfl h
  subst hc
  exact ⟨0, by decide, rfl, fun h => absurd h (by decide), fun h => absurd h (by decide), Or.inl rfl⟩
theorem rAfter_inv {r : Nat → Nat → Int32} {c : Int32} {pl : Nat} (hr : rInv r) (h0 : r 0 0 = nI pl) (hpl : 2 ≤ pl) (hp7 : pl ≤ 7) (h : ¬ rAfterB c = 0) : rInv (rAfter r c) := by
  obtain ⟨q, hq, e0, e1, e2, e4⟩ := hr
  have hqp : q = pl := (nI_eq (by omega) (by omega)).mp (e0.symm.trans h0)
  subst hqp
  unfold rAfter
  unfold rAfterB at h
  by_cases c1 : c = 119
  · rw [if_pos c1]
    exact ⟨6, by decide, rfl, fun _ => e1 (by omega), fun _ => e2 hpl, e4⟩
  · rw [if_neg c1] at h ⊢
    exact rComma_inv h
theorem rInv_next {r : Nat → Nat → Int32} {c : Int32} (hr : rInv r) (h : ¬ rB r c = 0) : rInv (rT r c) := by
  have hr0 := hr
  obtain ⟨pl, hpl, e0, e1, e2, e4⟩ := hr
  rcases (show pl = 0 ∨ pl = 1 ∨ pl = 2 ∨ pl = 3 ∨ pl = 4 ∨ pl = 5 ∨ pl = 6 ∨ pl = 7 by omega) with rfl | rfl | rfl | rfl | rfl | rfl | rfl | rfl
  · have q0 : r 0 0 = 0 := e0
    rw [show rB r c = rDig c by simp [rB, q0]] at h
    rw [show rT r c = rPupil r c by simp [rT, q0]]
    obtain ⟨d, hd, -, hd2⟩ := rDig_d h
    unfold rPupil rGo
    rw [if_neg h, if_neg h]
    exact ⟨1, by decide, rfl, fun _ => ⟨d, hd, hd2⟩, fun q => absurd q (by decide), e4⟩
  · have q0 : r 0 0 = 1 := e0
    rw [show rB r c = bW c 97 108 by simp [rB, q0]] at h
    rw [show rT r c = rExcuse r c by simp [rT, q0]]
    obtain ⟨d, hd, -, hd2⟩ := bW_off (a := 97) (b := 108) rfl rfl (by decide) (by decide) h
    unfold rExcuse rGo
    rw [if_neg h, if_neg h]
    exact ⟨2, by decide, rfl, fun _ => e1 (by decide), fun _ => ⟨d, by omega, hd2⟩, e4⟩
  · have q0 : r 0 0 = 2 := e0
    rw [show rB r c = bE c 109 by simp [rB, q0]] at h
    rw [show rT r c = rGo r (bE c 109) 3 by simp [rT, q0]]
    unfold rGo
    rw [if_neg h]
    exact ⟨3, by decide, rfl, fun _ => e1 (by decide), fun _ => e2 (by decide), e4⟩
  · have q0 : r 0 0 = 3 := e0
    by_cases c1 : c = 48
    · exact absurd (by simp [rB, q0, c1]) h
    · rw [show rB r c = rDig c by simp [rB, q0, c1]] at h
      rw [show rT r c = rMin r c 0 4 by simp [rT, q0, c1]]
      unfold rMin rGo
      rw [if_neg h, if_neg h]
      exact ⟨4, by decide, rfl, fun _ => e1 (by decide), fun _ => e2 (by decide), e4⟩
  · have q0 : r 0 0 = 4 := e0
    by_cases c1 : rDig c = 0
    · rw [show rB r c = rAfterB c by simp [rB, q0, c1]] at h
      have em : rMin r c (r 3 0) 5 = r := by unfold rMin rGo; rw [if_pos c1, if_pos c1]
      rw [show rT r c = rAfter r c by simp [rT, q0, c1, em]]
      exact rAfter_inv hr0 e0 (by decide) (by decide) h
    · rw [show rT r c = rMin r c (r 3 0) 5 by simp [rT, q0, c1]]
      unfold rMin rGo
      rw [if_neg c1, if_neg c1]
      exact ⟨5, by decide, rfl, fun _ => e1 (by decide), fun _ => e2 (by decide), e4⟩
  · have q0 : r 0 0 = 5 := e0
    rw [show rB r c = rAfterB c by simp [rB, q0]] at h
    rw [show rT r c = rAfter r c by simp [rT, q0]]
    exact rAfter_inv hr0 e0 (by decide) (by decide) h
  · have q0 : r 0 0 = 6 := e0
    rw [show rB r c = rWitB r c by simp [rB, q0]] at h
    rw [show rT r c = rWit r c by simp [rT, q0]]
    have hd0 : ¬ rDig c = 0 := fun q => h (by unfold rWitB; rw [if_pos q])
    obtain ⟨d, hd, -, hd2⟩ := rDig_d hd0
    unfold rWit rGo
    rw [if_neg h, if_neg h]
    exact ⟨7, by decide, rfl, fun _ => e1 (by decide), fun _ => e2 (by decide), Or.inr ⟨d, hd, hd2⟩⟩
  · have q0 : r 0 0 = 7 := e0
    rw [show rB r c = bE c 44 by simp [rB, q0]] at h
    rw [show rT r c = rComma r c by simp [rT, q0]]
    exact rComma_inv h
def rFull (r : Nat → Nat → Int32) : Prop := ∃ p e : Nat, p < 10 ∧ e < 12 ∧ r 1 0 = nI p ∧ r 2 0 = nI e ∧ (r 4 0 = -6 ∨ ∃ w : Nat, w < 10 ∧ r 4 0 = nI w)
theorem rFull_pl {r : Nat → Nat → Int32} (hr : rInv r) (h : ∀ pl : Nat, pl ≤ 1 → ¬ r 0 0 = nI pl) : rFull r := by
  obtain ⟨pl, hpl, e0, e1, e2, e4⟩ := hr
  have h2 : 2 ≤ pl := Nat.lt_of_not_le (fun q => h pl q e0)
  obtain ⟨p, hp, ep⟩ := e1 (by omega)
  obtain ⟨e, he, ee⟩ := e2 h2
  exact ⟨p, e, hp, he, ep, ee, e4⟩
theorem rFull_comma {r : Nat → Nat → Int32} (hr : rInv r) (h : ¬ rB r 44 = 0) : rFull r := by
  refine rFull_pl hr (fun pl hpl q => h ?_)
  rcases (show pl = 0 ∨ pl = 1 by omega) with rfl | rfl
  · unfold rB; rw [if_pos (show r 0 0 = 0 from q)]; rfl
  · have q0 : r 0 0 = 1 := q
    rw [show rB r 44 = bW 44 97 108 by simp [rB, q0]]; rfl
theorem rFull_end {r : Nat → Nat → Int32} (hr : rInv r) (h : ¬ rEnd r = 0) : rFull r := by
  refine rFull_pl hr (fun pl hpl q => h ?_)
  rcases (show pl = 0 ∨ pl = 1 by omega) with rfl | rfl
  · have q0 : r 0 0 = 0 := q
    unfold rEnd; rw [q0]; rfl
  · have q0 : r 0 0 = 1 := q
    unfold rEnd; rw [q0]; rfl
theorem cFlt_0 {ch : Nat → Int32} {i : Nat} {r : Nat → Nat → Int32} (hi : i < 2 ^ 30) (h : (cFlt ch 0 i r).1 = -6) : ¬ rEnd r = 0 := by
  intro q
  simp only [cFlt, q, if_true] at h
  exact absurd (congrArg (fun z => decide (z < 0)) h) (by simp only [decide_eq_false (nI_pos (show i < 2 ^ 31 by omega))]; decide)
theorem cFlt_s {ch : Nat → Int32} {m i : Nat} {r : Nat → Nat → Int32} (hi : i < 2 ^ 30) (h : (cFlt ch (m + 1) i r).1 = -6) : ¬ rB r (ch i) = 0 ∧ (cFlt ch m (i + 1) (rT r (ch i))).1 = -6 := by
  by_cases q : rB r (ch i) = 0
  · simp only [cFlt, q, if_true] at h
    exact absurd (congrArg (fun z => decide (z < 0)) h) (by simp only [decide_eq_false (nI_pos (show i < 2 ^ 31 by omega))]; decide)
  · simp only [cFlt, q, if_false] at h
    exact ⟨q, h⟩
def tFault (Z : Nat → Nat → Nat → Int32) (pl : Nat) : Int32 × (Nat → Nat → Int32) := cFlt (Z 9 0) pl 0 (rBegin (Z 10))
def tReadK (Z : Nat → Nat → Nat → Int32) (nx kp pl : Nat) : Nat → Nat → Nat → Int32 := sKeep (va_up Z 10 (tFault Z pl).2) nx kp
def tReadD (Z : Nat → Nat → Nat → Int32) (nx kp pl : Nat) : (Nat → Nat → Int32) × (Nat → Nat → Int32) × Int32 := cRd (Z 9 0) pl 0 (Z 0) (rBegin (tReadK Z nx kp pl 10)) 0
def tRead (Z : Nat → Nat → Nat → Int32) (nx kp pl : Nat) : Int32 := if (tFault Z pl).1 = -6 then (tReadD Z nx kp pl).2.2 else -3
def tReadZ (Z : Nat → Nat → Nat → Int32) (nx kp pl : Nat) : Nat → Nat → Nat → Int32 := if (tFault Z pl).1 = -6 then va_up (va_up (va_up (tReadK Z nx kp pl) 0 (tReadD Z nx kp pl).1) 10 (tReadD Z nx kp pl).2.1) 9 (zu (tReadK Z nx kp pl 9) 1 0 0) else va_up Z 10 (tFault Z pl).2
theorem tReadK_9 {Z : Nat → Nat → Nat → Int32} {nx kp pl : Nat} (h : nx < 6) : tReadK Z nx kp pl 9 = Z 9 := by
  unfold tReadK sKeep
  rw [va_up_ne _ _ (by decide), va_up_ne _ _ (by omega), va_up_ne _ _ (by decide)]
def tPut (x : Int64) (pl : Nat) : Int32 := if sCh x 8 0 = 0 then -2 else if pl + sCh x 8 0 ≤ 60 then nI (pl + sCh x 8 0) else -4
def tPutZ (Z : Nat → Nat → Nat → Int32) (x : Int64) (pl : Nat) : Nat → Nat → Nat → Int32 := if sCh x 8 0 = 0 then Z else if pl + sCh x 8 0 ≤ 60 then va_up Z 9 (sApp x (Z 9) pl (sCh x 8 0)) else Z
/-- what decides whether a character may stand: the place, and the pupil once it is read -/
def rSame (r r2 : Nat → Nat → Int32) : Prop := r 0 0 = r2 0 0 ∧ (r 0 0 = 0 ∨ r 1 0 = r2 1 0)
theorem rSame_begin (r r2 : Nat → Nat → Int32) : rSame (rBegin r) (rBegin r2) := ⟨rfl, Or.inl rfl⟩
theorem rSame_B {r r2 : Nat → Nat → Int32} (h : rSame r r2) (c : Int32) : rB r c = rB r2 c := by
  obtain ⟨h0, h1⟩ := h
  rcases h1 with h1 | h1
  · simp only [rB, ← h0, h1, if_true]
  · simp only [rB, ← h0, rWitB, h1]
theorem rSame_go {r r2 : Nat → Nat → Int32} (h : rSame r r2) (b nx : Int32) (h1 : r 1 0 = r2 1 0) : rSame (rGo r b nx) (rGo r2 b nx) := by
  unfold rGo
  by_cases c : b = 0
  · rw [if_pos c, if_pos c]; exact h
  · rw [if_neg c, if_neg c]; exact ⟨rfl, Or.inr h1⟩
theorem rSame_T {r r2 : Nat → Nat → Int32} (h : rSame r r2) (c : Int32) : rSame (rT r c) (rT r2 c) := by
  obtain ⟨h0, h1⟩ := h
  by_cases q0 : r 0 0 = 0
  · have q2 : r2 0 0 = 0 := h0 ▸ q0
    rw [show rT r c = rPupil r c by simp [rT, q0], show rT r2 c = rPupil r2 c by simp [rT, q2]]
    unfold rPupil
    by_cases d : rDig c = 0
    · simp only [d, rGo, if_true]; exact ⟨h0, h1⟩
    · simp only [d, rGo, if_false]; exact ⟨rfl, Or.inr rfl⟩
  · have e1 : r 1 0 = r2 1 0 := h1.resolve_left q0
    have hs : rSame r r2 := ⟨h0, h1⟩
    have hu : ∀ k v, k ≠ 0 → k ≠ 1 → rSame (zu r k 0 v) (zu r2 k 0 v) ∧ (zu r k 0 v) 1 0 = (zu r2 k 0 v) 1 0 := fun k v hk hk1 => by
      have a0 : zu r k 0 v 0 = r 0 := zu_o (Ne.symm hk)
      have a1 : zu r k 0 v 1 = r 1 := zu_o (Ne.symm hk1)
      have b0 : zu r2 k 0 v 0 = r2 0 := zu_o (Ne.symm hk)
      have b1 : zu r2 k 0 v 1 = r2 1 := zu_o (Ne.symm hk1)
      exact ⟨⟨by rw [a0, b0]; exact h0, Or.inr (by rw [a1, b1]; exact e1)⟩, by rw [a1, b1]; exact e1⟩
    have hu2 : ∀ k v w, k ≠ 0 → k ≠ 1 → rSame (zu r k 0 v) (zu r2 k 0 w) ∧ (zu r k 0 v) 1 0 = (zu r2 k 0 w) 1 0 := fun k v w hk hk1 => by
      have a0 : zu r k 0 v 0 = r 0 := zu_o (Ne.symm hk)
      have a1 : zu r k 0 v 1 = r 1 := zu_o (Ne.symm hk1)
      have b0 : zu r2 k 0 w 0 = r2 0 := zu_o (Ne.symm hk)
      have b1 : zu r2 k 0 w 1 = r2 1 := zu_o (Ne.symm hk1)
      exact ⟨⟨by rw [a0, b0]; exact h0, Or.inr (by rw [a1, b1]; exact e1)⟩, by rw [a1, b1]; exact e1⟩
    have hcomma : rSame (rComma r c) (rComma r2 c) := by
      unfold rComma
      by_cases d : c = 44
      · rw [if_pos d, if_pos d]; exact rSame_go (hu 4 _ (by decide) (by decide)).1 _ _ (hu 4 _ (by decide) (by decide)).2
      · rw [if_neg d, if_neg d]; exact rSame_go hs _ _ e1
    have hafter : rSame (rAfter r c) (rAfter r2 c) := by
      unfold rAfter
      by_cases d : c = 119
      · rw [if_pos d, if_pos d]; exact ⟨rfl, Or.inr e1⟩
      · rw [if_neg d, if_neg d]; exact hcomma
    have hmin : ∀ t t2 nx, rSame (rMin r c t nx) (rMin r2 c t2 nx) := fun t t2 nx => by
      unfold rMin
      by_cases d : rDig c = 0
      · rw [if_pos d, if_pos d]; exact rSame_go hs _ _ e1
      · rw [if_neg d, if_neg d]; exact rSame_go (hu2 3 _ _ (by decide) (by decide)).1 _ _ (hu2 3 _ _ (by decide) (by decide)).2
    have hmin0 : rDig c = 0 → ∀ (q : Nat → Nat → Int32) t nx, rMin q c t nx = q := fun d q t nx => by unfold rMin rGo; rw [if_pos d, if_pos d]
    unfold rT
    rw [← h0]
    simp only [q0, if_false]
    split
    · unfold rExcuse
      by_cases d : bW c 97 108 = 0
      · rw [if_pos d, if_pos d]; exact rSame_go hs _ _ e1
      · rw [if_neg d, if_neg d]; exact rSame_go (hu 2 _ (by decide) (by decide)).1 _ _ (hu 2 _ (by decide) (by decide)).2
    · split
      · exact rSame_go hs _ _ e1
      · split
        · split
          · exact hs
          · exact hmin _ _ _
        · split
          · split
            · rename_i d
              rw [hmin0 d, hmin0 d]; exact hafter
            · exact hmin _ _ _
          · split
            · exact hafter
            · split
              · unfold rWit
                rw [show rWitB r2 c = rWitB r c by simp only [rWitB, e1]]
                by_cases d : rWitB r c = 0
                · rw [if_pos d, if_pos d]; exact rSame_go hs _ _ e1
                · rw [if_neg d, if_neg d]; exact rSame_go (hu 4 _ (by decide) (by decide)).1 _ _ (hu 4 _ (by decide) (by decide)).2
              · exact hcomma
theorem cFlt_same (ch : Nat → Int32) : ∀ (m i : Nat) (r r2 : Nat → Nat → Int32), rSame r r2 → (cFlt ch m i r).1 = (cFlt ch m i r2).1
  | 0, i, r, r2, h => by
    have e : rEnd r = rEnd r2 := by unfold rEnd; rw [h.1]
    show (if rEnd r = 0 then nI i else -6) = (if rEnd r2 = 0 then nI i else -6)
    rw [e]
  | m + 1, i, r, r2, h => by
    simp only [cFlt, rSame_B h]
    split
    · rfl
    · exact cFlt_same ch m (i + 1) _ _ (rSame_T h _)
theorem rd_begin {Z K : Nat → Nat → Nat → Int32} {nx kp pl : Nat} (_ : K = tReadK Z nx kp pl) (_ : nx < 6) (h : (tFault Z pl).1 = -6) : (cFlt (Z 9 0) pl 0 (rBegin (K 10))).1 = -6 := (cFlt_same _ _ _ _ _ (rSame_begin _ _)).trans h
