theorem zu_self {z : Nat → Nat → Int32} {k i : Nat} : zu z k i (z k i) = z := by
  funext l j
  by_cases c : l = k
  · subst c
    by_cases d : j = i
    · subst d; rw [zu_ee]
    · rw [zu_en d]
  · rw [zu_o c]
theorem mS.val {z : Nat → Nat → Int32} {n : Nat} {w : Nat → Int32} (h : mS z n w) {k i : Nat} (hv : mv k i) : w (mp k i) = z k i := h.1 k i hv
theorem mS.inc {z : Nat → Nat → Int32} {n : Nat} {w : Nat → Int32} (h : mS z n w) {k i : Nat} (hv : mv k i) (hk : k = 10 ∨ k = 13) : mS (zu z k i (z k i + 1)) n (va_up w (mp k i) (w (mp k i) + 1)) := by
  rw [h.val hv]
  exact h.up hv _ (by omega) (by omega) (h.2.1.free _ (by omega))
theorem nI_6 {w : Nat} (h : w < 10) : ¬ nI w = -6 := fun q => absurd (nI_pos (n := w) (by omega)) (by rw [q]; decide)
theorem mS.ang {z : Nat → Nat → Int32} {n p : Nat} {g : Nat → Nat → Int32} (h : mS z n (g 0)) (hp : p < 10) : mS (sAnger z p) n (mAng g p 0) := by
  obtain ⟨c, hc, ec⟩ := h.2.1.2.2.2.1 (p / 2) (by omega)
  have e1 : g 0 (13 + p / 2) = nI c := (h.val (k := 12) (i := p / 2) (show p / 2 < 5 by omega)).trans ec
  have e2 : (if 9 ≤ g 0 (13 + p / 2) then 9 else g 0 (13 + p / 2) + 1) = sMin9 (z 12 (p / 2) + 1) := by
    rw [e1, ec]
    rcases (show c = 0 ∨ c = 1 ∨ c = 2 ∨ c = 3 ∨ c = 4 ∨ c = 5 ∨ c = 6 ∨ c = 7 ∨ c = 8 ∨ c = 9 by omega) with rfl | rfl | rfl | rfl | rfl | rfl | rfl | rfl | rfl | rfl <;> decide
  have e3 : ∃ d : Nat, d ≤ 9 ∧ sMin9 (z 12 (p / 2) + 1) = nI d := by
    rw [ec]
    rcases (show c = 0 ∨ c = 1 ∨ c = 2 ∨ c = 3 ∨ c = 4 ∨ c = 5 ∨ c = 6 ∨ c = 7 ∨ c = 8 ∨ c = 9 by omega) with rfl | rfl | rfl | rfl | rfl | rfl | rfl | rfl | rfl | rfl
    · exact ⟨1, by decide, by decide⟩
    · exact ⟨2, by decide, by decide⟩
    · exact ⟨3, by decide, by decide⟩
    · exact ⟨4, by decide, by decide⟩
    · exact ⟨5, by decide, by decide⟩
    · exact ⟨6, by decide, by decide⟩
    · exact ⟨7, by decide, by decide⟩
    · exact ⟨8, by decide, by decide⟩
    · exact ⟨9, by decide, by decide⟩
    · exact ⟨9, by decide, by decide⟩
  obtain ⟨d, hd, ed⟩ := e3
  unfold mAng sAnger
  rw [e2, zu_e]
  exact h.up (k := 12) (i := p / 2) (show p / 2 < 5 by omega) _ (by decide) (by decide) (by rw [ed]; exact h.2.1.grudge hd)
theorem mS.los {z : Nat → Nat → Int32} {n : Nat} {g : Nat → Nat → Int32} {wt c : Int32} (h : mS z n (g 0)) (hw : wt = -6 ∨ ∃ w : Nat, w < 10 ∧ wt = nI w) (hc : c = 0 ∨ c = 1 ∨ c = 2) : mS (if c = 0 then z else sTake z wt c) n (mLos g wt c 0) := by
  unfold mLos sTake
  rcases hw with rfl | ⟨w, hw, rfl⟩
  · rw [if_pos rfl, if_pos rfl, ite_self]; exact h
  · rw [if_neg (nI_6 hw), if_neg (nI_6 hw), cl_nI (by omega)]
    obtain ⟨q, hq, eq⟩ := h.2.1.2.2.1 w hw
    have e1 : g 0 (54 + 6 * w + 0) = nI q := (h.val (k := 6) (i := w) hw).trans eq
    have e2 : (if 0 ≤ g 0 (54 + 6 * w + 0) - c then g 0 (54 + 6 * w + 0) - c else 0) = if c = 0 then z 6 w else sMax0 (z 6 w - c) := by
      rw [e1, eq]
      rcases hc with rfl | rfl | rfl <;> rcases (show q = 0 ∨ q = 1 ∨ q = 2 ∨ q = 3 ∨ q = 4 ∨ q = 5 ∨ q = 6 ∨ q = 7 ∨ q = 8 ∨ q = 9 by omega) with rfl | rfl | rfl | rfl | rfl | rfl | rfl | rfl | rfl | rfl <;> decide
    have e3 : ∃ d : Nat, d ≤ 9 ∧ (if c = 0 then z 6 w else sMax0 (z 6 w - c)) = nI d := by
      rw [eq]
      rcases hc with rfl | rfl | rfl
      · exact ⟨q, hq, by rw [if_pos rfl]⟩
      · refine ⟨q - 1, by omega, ?_⟩
        rcases (show q = 0 ∨ q = 1 ∨ q = 2 ∨ q = 3 ∨ q = 4 ∨ q = 5 ∨ q = 6 ∨ q = 7 ∨ q = 8 ∨ q = 9 by omega) with rfl | rfl | rfl | rfl | rfl | rfl | rfl | rfl | rfl | rfl <;> decide
      · refine ⟨q - 2, by omega, ?_⟩
        rcases (show q = 0 ∨ q = 1 ∨ q = 2 ∨ q = 3 ∨ q = 4 ∨ q = 5 ∨ q = 6 ∨ q = 7 ∨ q = 8 ∨ q = 9 by omega) with rfl | rfl | rfl | rfl | rfl | rfl | rfl | rfl | rfl | rfl <;> decide
    obtain ⟨d, hd, ed⟩ := e3
    rw [e2, zu_e]
    have h2 := h.up (k := 6) (i := w) hw (if c = 0 then z 6 w else sMax0 (z 6 w - c)) (by decide) (by decide) (by rw [ed]; exact h.2.1.credit hd)
    by_cases c0 : c = 0
    · rw [if_pos c0] at h2 ⊢
      rw [if_pos c0]
      rw [zu_self] at h2
      exact h2
    · rw [if_neg c0] at h2 ⊢
      rw [if_neg c0]
      exact h2
def zOff1 (z : Nat → Nat → Int32) (p e : Nat) (mn : Int32) (r : Nat) : Nat → Nat → Int32 := sAnger (zu (zu (zu (zu z 11 p (z 2 e)) 13 r (z 13 r + 1)) 10 p (z 10 p + 1)) 7 p (z 7 p + z 0 3 * mn)) p
theorem mS_ref2 {z : Nat → Nat → Int32} {n p e r : Nat} {g : Nat → Nat → Int32} {mn : Int32} (h : mS z n (g 0)) (hp : p < 10) (hr1 : 1 ≤ r) (hr4 : r ≤ 4) : mS (zOff1 z p e mn r) n (mRef2 g p (z 2 e) mn r 0) := by
  have a1 : mS (zu z 11 p (z 2 e)) n (mLay g p 4 (z 2 e) 0) := by
    unfold mLay
    rw [zu_e]
    exact h.up (k := 11) (i := p) hp _ (by decide) (by decide) (h.2.1.free _ (by decide))
  have a2 : mS (zu (zu z 11 p (z 2 e)) 13 r (z 13 r + 1)) n (mInc (mLay g p 4 (z 2 e)) (6 + r) 0) := by
    unfold mInc
    rw [zu_e]
    exact a1.inc (k := 13) (i := r) ⟨hr1, hr4⟩ (Or.inr rfl)
  have a3 : mS (zu (zu (zu z 11 p (z 2 e)) 13 r (z 13 r + 1)) 10 p (z 10 p + 1)) n (mRef1 g p (z 2 e) r 0) := by
    unfold mRef1
    rw [show mInc (mInc (mLay g p 4 (z 2 e)) (6 + r)) (54 + 6 * p + 3) 0 = va_up (mInc (mLay g p 4 (z 2 e)) (6 + r) 0) (54 + 6 * p + 3) _ from zu_e]
    exact a2.inc (k := 10) (i := p) hp (Or.inl rfl)
  have v7 : mRef1 g p (z 2 e) r 0 (54 + 6 * p + 1) = z 7 p := a3.val (k := 7) (i := p) hp
  have v3 : mRef1 g p (z 2 e) r 0 3 = z 0 3 := a3.val (k := 0) (i := 3) (show 3 < 5 by decide)
  unfold mRef2 zOff1
  refine mS.ang ?_ hp
  rw [v7, v3, zu_e]
  exact a3.up (k := 7) (i := p) hp _ (by decide) (by decide) (a3.2.1.free _ (by decide))
theorem mS_ref {z : Nat → Nat → Int32} {n p e r : Nat} {g : Nat → Nat → Int32} {wt mn c : Int32} (h : mS z n (g 0)) (hp : p < 10) (hw : wt = -6 ∨ ∃ w : Nat, w < 10 ∧ wt = nI w) (hr1 : 1 ≤ r) (hr4 : r ≤ 4) (hr : sReason z p e wt mn = nI r) (hc : c = if r = 4 then 2 else 0) : mS (sOffer z p e wt mn) n (mLos (mRef2 g p (z 2 e) mn r) wt c 0) := by
  have a := (mS_ref2 (e := e) (mn := mn) h hp hr1 hr4).los (wt := wt) (c := c) hw (by rw [hc]; split; exact Or.inr (Or.inr rfl); exact Or.inl rfl)
  have hne : ¬ nI r = 0 := nI_ne0 (by omega) (by omega)
  have e1 : sOffer z p e wt mn = zu (sRefuse z p wt mn r) 11 p (sRefuse z p wt mn r 2 e) := by
    unfold sOffer sOffer0
    rw [hr, if_neg hne, cl_nI (by omega)]
  have b2 : sRefuse0 z p mn r 2 = z 2 := rfl
  have e0 : zu (sRefuse0 z p mn r) 11 p (z 2 e) = zOff1 z p e mn r := by
    unfold sRefuse0 zOff1 sAnger
    funext l
    by_cases l11 : l = 11
    · subst l11; simp [zu, va_up]
    · by_cases l13 : l = 13
      · subst l13; simp [zu, va_up]
      · by_cases l10 : l = 10
        · subst l10; simp [zu, va_up]
        · by_cases l7 : l = 7
          · subst l7; simp [zu, va_up]
          · by_cases l12 : l = 12
            · subst l12; simp [zu, va_up]
            · simp [zu, va_up, l11, l13, l10, l7, l12]
  rw [e1]
  by_cases c4 : r = 4
  · rw [if_pos c4] at hc
    rw [hc, if_neg (by decide)] at a
    unfold sRefuse
    rw [if_pos c4]
    unfold sTake at a ⊢
    rw [hc]
    by_cases cw : wt = -6
    · rw [if_pos cw] at a ⊢
      rw [b2, e0]
      exact a
    · rw [if_neg cw] at a ⊢
      rw [show zu (sRefuse0 z p mn r) 6 (cl wt) (sMax0 (sRefuse0 z p mn r 6 (cl wt) - 2)) 2 = z 2 from rfl, zu_comm (by decide), e0]
      exact a
  · rw [if_neg c4] at hc
    rw [hc, if_pos rfl] at a
    unfold sRefuse
    rw [if_neg c4, b2, e0, hc]
    exact a
def zStm (z : Nat → Nat → Int32) (p e : Nat) : Nat → Nat → Int32 := zu (zu (zu (zu z 11 p (z 2 e)) 9 p (z 9 p + 1)) 5 (p * 12 + e) (z 5 (p * 12 + e) + 1)) 4 e (z 4 e + 1)
theorem zStm_eq (z : Nat → Nat → Int32) (p e : Nat) : zu (sStamp0 z p e) 11 p (z 2 e) = zStm z p e := by
  unfold sStamp0 zStm
  funext l
  by_cases l11 : l = 11
  · subst l11; simp [zu, va_up]
  · by_cases l9 : l = 9
    · subst l9; simp [zu, va_up]
    · by_cases l5 : l = 5
      · subst l5; simp [zu, va_up]
      · by_cases l4 : l = 4
        · subst l4; simp [zu, va_up]
        · simp [zu, va_up, l11, l9, l5, l4]
theorem mS_stm0 {z : Nat → Nat → Int32} {n p e : Nat} {g : Nat → Nat → Int32} {wt mn : Int32} (h : mS z n (g 0)) (hp : p < 10) (he : e < n) (hr : sReason z p e wt mn = 0) : mS (zStm z p e) n (mInc (mInc (mInc (mInc (mInc (mLay g p 4 (z 2 e)) 6) 12) (54 + 6 * p + 2)) (114 + 10 * e + p)) (18 + 3 * e + 2) 0) := by
  have hn12 := h.2.1.n12
  have e5 : mp 5 (p * 12 + e) = 114 + 10 * e + p := by simp only [mp]; omega
  obtain ⟨u, hu, eu⟩ := h.2.1.2.2.2.2.1 (p * 12 + e) (by omega)
  obtain ⟨a, ha, ea⟩ := h.2.1.2.2.2.2.2.2.1.2.1
  have hlt : u < a := by
    by_cases c : sU z p e < z 0 2
    · unfold sU at c
      rw [eu, ea] at c
      exact (nI_ltI (by omega) (by omega)).mp c
    · unfold sReason at hr
      rw [if_neg c] at hr
      exact absurd hr (by decide)
  generalize hg1 : mLay g p 4 (z 2 e) = g1
  have r1 : mR (zu z 11 p (z 2 e)) (g1 0) := by
    rw [← hg1]; unfold mLay; rw [zu_e]
    exact h.1.up (k := 11) (i := p) hp _
  have g16 : g1 0 6 = bx_sum (z 9) 10 := by rw [← hg1]; unfold mLay; rw [zu_en (by omega)]; exact h.2.2.1
  have g112 : g1 0 12 = bx_sum (z 5) 120 := by rw [← hg1]; unfold mLay; rw [zu_en (by omega)]; exact h.2.2.2
  generalize hg3 : mInc (mInc g1 6) 12 = g3
  have r3 : mR (zu z 11 p (z 2 e)) (g3 0) := by
    rw [← hg3]; unfold mInc; rw [zu_e, zu_e]
    exact (r1.off (Or.inl rfl) _).off (Or.inr rfl) _
  have g36 : g3 0 6 = bx_sum (z 9) 10 + 1 := by rw [← hg3]; unfold mInc; rw [zu_en (by decide), zu_ee, g16]
  have g312 : g3 0 12 = bx_sum (z 5) 120 + 1 := by rw [← hg3]; unfold mInc; rw [zu_ee, zu_en (by decide), g112]
  generalize hg4 : mInc g3 (54 + 6 * p + 2) = g4
  have r4 : mR (zu (zu z 11 p (z 2 e)) 9 p (z 9 p + 1)) (g4 0) := by
    rw [← hg4]; unfold mInc; rw [zu_e, show g3 0 (54 + 6 * p + 2) = z 9 p from r3 9 p hp]
    exact r3.up (k := 9) (i := p) hp _
  have g46 : g4 0 6 = bx_sum (z 9) 10 + 1 := by rw [← hg4]; unfold mInc; rw [zu_en (by omega), g36]
  have g412 : g4 0 12 = bx_sum (z 5) 120 + 1 := by rw [← hg4]; unfold mInc; rw [zu_en (by omega), g312]
  generalize hg5 : mInc g4 (114 + 10 * e + p) = g5
  have v5 : mv 5 (p * 12 + e) := show p * 12 + e < 120 by omega
  have r5 : mR (zu (zu (zu z 11 p (z 2 e)) 9 p (z 9 p + 1)) 5 (p * 12 + e) (z 5 (p * 12 + e) + 1)) (g5 0) := by
    rw [← hg5]; unfold mInc
    have q := r4 5 (p * 12 + e) v5
    rw [e5] at q
    rw [zu_e, show g4 0 (114 + 10 * e + p) = z 5 (p * 12 + e) from q, ← e5]
    exact r4.up v5 _
  have g56 : g5 0 6 = bx_sum (z 9) 10 + 1 := by rw [← hg5]; unfold mInc; rw [zu_en (by omega), g46]
  have g512 : g5 0 12 = bx_sum (z 5) 120 + 1 := by rw [← hg5]; unfold mInc; rw [zu_en (by omega), g412]
  have r6 : mR (zStm z p e) (mInc g5 (18 + 3 * e + 2) 0) := by
    unfold mInc zStm
    rw [zu_e, show g5 0 (18 + 3 * e + 2) = z 4 e from r5 4 e (show e < 12 by omega)]
    exact r5.up (k := 4) (i := e) (show e < 12 by omega) _
  refine ⟨r6, ?_, ?_, ?_⟩
  · have g1 := (h.2.1.free (k := 11) (i := p) (z 2 e) (by decide)).free (k := 9) (i := p) (z 9 p + 1) (by decide)
    have g2 := g1.use (p := p) (u := u + 1) he (by omega)
    have g3 := g2.used (v := z 4 e + 1) he
    unfold zStm
    rw [eu, nI_1]
    exact g3
  · unfold mInc
    rw [zu_en (by omega), g56]
    show _ = bx_sum (va_up (z 9) p (z 9 p + 1)) 10
    rw [bx_up hp]
  · unfold mInc
    rw [zu_en (by omega), g512]
    show _ = bx_sum (va_up (z 5) (p * 12 + e) (z 5 (p * 12 + e) + 1)) 120
    rw [bx_up (by omega)]
theorem mS_stm {z : Nat → Nat → Int32} {n p e : Nat} {g : Nat → Nat → Int32} {wt mn : Int32} (h : mS z n (g 0)) (hp : p < 10) (he : e < n) (hw : wt = -6 ∨ ∃ w : Nat, w < 10 ∧ wt = nI w) (hr : sReason z p e wt mn = 0) : (mn ≤ 30 → mS (sOffer z p e wt mn) n (mStm0 g p e (z 2 e) wt 0)) ∧ (¬ mn ≤ 30 → mS (sOffer z p e wt mn) n (mAng (mStm0 g p e (z 2 e) wt) p 0)) := by
  have a := (mS_stm0 h hp he hr).los (wt := wt) (c := 1) hw (Or.inr (Or.inl rfl))
  rw [if_neg (by decide)] at a
  have e0 : zu (sTake (sStamp0 z p e) wt 1) 11 p (z 2 e) = sTake (zStm z p e) wt 1 := by
    unfold sTake
    by_cases cw : wt = -6
    · rw [if_pos cw, if_pos cw, zStm_eq]
    · rw [if_neg cw, if_neg cw, zu_comm (by decide), zStm_eq]; rfl
  have k2 : sTake (sStamp0 z p e) wt 1 2 = z 2 := by
    unfold sTake
    by_cases cw : wt = -6
    · rw [if_pos cw]; rfl
    · rw [if_neg cw]; rfl
  have k12 : sTake (zStm z p e) wt 1 12 = sTake (sStamp0 z p e) wt 1 12 := by
    unfold sTake
    by_cases cw : wt = -6
    · rw [if_pos cw, if_pos cw]; rfl
    · rw [if_neg cw, if_neg cw]; rfl
  constructor
  · intro c
    have e1 : sOffer z p e wt mn = sTake (zStm z p e) wt 1 := by
      unfold sOffer sOffer0 sStamp
      rw [if_pos hr, if_pos c, k2, e0]
    rw [e1]
    exact a
  · intro c
    have e1 : sOffer z p e wt mn = sAnger (sTake (zStm z p e) wt 1) p := by
      unfold sOffer sOffer0 sStamp
      rw [if_pos hr, if_neg c]
      unfold sAnger
      rw [show zu (sTake (sStamp0 z p e) wt 1) 12 (p / 2) (sMin9 (sTake (sStamp0 z p e) wt 1 12 (p / 2) + 1)) 2 = z 2 from k2, zu_comm (by decide), e0, k12]
    rw [e1]
    exact a.ang hp
theorem mLos_o {g : Nat → Nat → Int32} {wt c : Int32} {l : Nat} (h : l ≠ 0) : mLos g wt c l = g l := by
  unfold mLos
  split
  · rfl
  · exact zu_o h
theorem mRef2_o {g : Nat → Nat → Int32} {p r : Nat} {kd mn : Int32} {l : Nat} (h : l ≠ 0) : mRef2 g p kd mn r l = g l := by
  unfold mRef2 mRef1 mAng mInc mLay
  rw [zu_o h, zu_o h, zu_o h, zu_o h, zu_o h]
theorem mStm0_o {g : Nat → Nat → Int32} {p e : Nat} {kd wt : Int32} {l : Nat} (h : l ≠ 0) : mStm0 g p e kd wt l = g l := by
  unfold mStm0 mInc mLay
  rw [mLos_o h, zu_o h, zu_o h, zu_o h, zu_o h, zu_o h, zu_o h]
