section JOP
variable {Z : Nat → Nat → Nat → Int32} {n nx kp pl : Nat} {g2 : Nat → Nat → Int32}
theorem sKeep_11 (h : nx < 6) : sKeep Z nx kp 11 = Z 11 := by
  unfold sKeep
  rw [va_up_ne _ _ (by decide), va_up_ne _ _ (by omega)]
theorem sKeep_9 (h : nx < 6) : sKeep Z nx kp 9 = Z 9 := by
  unfold sKeep
  rw [va_up_ne _ _ (by decide), va_up_ne _ _ (by omega)]
theorem JI.hnx (h : JI Z n nx kp pl) : nx < 6 := h.2.1.1
/-- a change that the class keeps the state before -/
theorem J_chg {ok : Prop} {Zc : Nat → Nat → Nat → Int32} {z2 : Nat → Nat → Int32} {n2 : Nat} (h : JI Z n nx kp pl) (hm : mChg ok (Z 11) kp z2 n2 g2) (h1 : ok → Zc = va_up (sKeep Z nx kp) 0 z2) (h2 : ¬ ok → Zc = Z) : ∃ n' nx' kp' : Nat, JI (va_up Zc 11 g2) n' nx' kp' pl := by
  rcases hm with ⟨hk, rfl⟩ | ⟨hk, hz, hr⟩
  · rw [h2 hk, va_up_i]; exact ⟨n, nx, kp, h⟩
  · rw [h1 hk]
    obtain ⟨e1, e2, e3, e4⟩ := h.2.2.2.2
    have hnx := h.2.1.1
    refine ⟨n2, _, _, J_keep (z2 := z2) h ?_ (fun i hi => ?_) ?_ ?_ (fun l h1 h6 => ?_) ⟨?_, ?_, e3, fun j hj => ?_⟩⟩
    · rw [va_up_ne _ _ (by decide), va_up_e]
    · rw [va_up_ne _ _ (by omega), va_up_ne _ _ (by omega)]
    · rw [va_up_ne _ _ (by decide), va_up_ne _ _ (by decide)]
    · rw [va_up_e]; exact hz
    · rw [va_up_e]; exact hr l (by omega)
    · rw [va_up_ne _ _ (by decide), va_up_ne _ _ (by decide), sKeep_9 hnx]; exact e1
    · rw [va_up_e, hr 6 (by decide), mRec_o _ _ (by decide) (by decide)]; exact e2
    · rw [va_up_e, hr 5 (by decide), mRec_o _ _ (by decide) (by decide), va_up_ne _ _ (by decide), va_up_ne _ _ (by decide), sKeep_9 hnx]; exact e4 j hj
theorem chg_11 {Zc : Nat → Nat → Nat → Int32} {z2 : Nat → Nat → Int32} (h : JI Z n nx kp pl) (hc : Zc = Z ∨ Zc = va_up (sKeep Z nx kp) 0 z2) : Zc 11 = Z 11 := by
  rcases hc with rfl | rfl
  · rfl
  · rw [va_up_ne _ _ (by decide)]; exact sKeep_11 h.2.1.1
theorem J_set {st v : Int32} (h : JI Z n nx kp pl) : tSetZ Z nx kp st v 11 = Z 11 ∧ ∀ g2, mChg (¬ mVal st v = 0) (Z 11) kp (zu (Z 0) 0 (cl st) v) n g2 → ∃ n' nx' kp' : Nat, JI (va_up (tSetZ Z nx kp st v) 11 g2) n' nx' kp' pl := by
  have e : tSetZ Z nx kp st v = if mVal st v = 0 then Z else va_up (sKeep Z nx kp) 0 (zu (Z 0) 0 (cl st) v) := by
    unfold tSetZ mVal
    by_cases c : bW st 0 4 = 0
    · rw [if_pos c, if_pos c, if_pos rfl]
    · rw [if_neg c, if_neg c]
  rw [e]
  refine ⟨chg_11 (z2 := zu (Z 0) 0 (cl st) v) h (by split; exact Or.inl rfl; exact Or.inr rfl), fun g2 hm => J_chg h hm (fun q => if_neg q) (fun q => if_pos (Classical.byContradiction q))⟩
theorem J_add {kd wh : Int32} (h : JI Z n nx kp pl) : tAddZ Z nx kp n kd wh 11 = Z 11 ∧ ∀ g2, mChg (¬ bW kd 0 4 = 0 ∧ ¬ bW wh 1 99 = 0 ∧ n < 12) (Z 11) kp (sAdd (Z 0) n kd wh) (n + 1) g2 → ∃ n' nx' kp' : Nat, JI (va_up (tAddZ Z nx kp n kd wh) 11 g2) n' nx' kp' pl := by
  have e : tAddZ Z nx kp n kd wh = if ¬ bW kd 0 4 = 0 ∧ ¬ bW wh 1 99 = 0 ∧ n < 12 then va_up (sKeep Z nx kp) 0 (sAdd (Z 0) n kd wh) else Z := by
    unfold tAddZ
    by_cases c : bW kd 0 4 = 0
    · rw [if_pos c, if_neg (fun q => q.1 c)]
    · by_cases d : bW wh 1 99 = 0
      · rw [if_neg c, if_pos d, if_neg (fun q => q.2.1 d)]
      · by_cases f : n < 12
        · rw [if_neg c, if_neg d, if_pos f, if_pos ⟨c, d, f⟩]
        · rw [if_neg c, if_neg d, if_neg f, if_neg (fun q => f q.2.2)]
  rw [e]
  exact ⟨chg_11 (z2 := sAdd (Z 0) n kd wh) h (by split; exact Or.inr rfl; exact Or.inl rfl), fun g2 hm => J_chg h hm (fun q => if_pos q) (fun q => if_neg q)⟩
theorem J_worth {ee wh : Int32} (h : JI Z n nx kp pl) : tWorthZ Z nx kp ee wh 11 = Z 11 ∧ ∀ g2, mChg (¬ bH (Z 0) ee = 0 ∧ ¬ bW wh 1 99 = 0) (Z 11) kp (zu (Z 0) 3 (cl ee) wh) n g2 → ∃ n' nx' kp' : Nat, JI (va_up (tWorthZ Z nx kp ee wh) 11 g2) n' nx' kp' pl := by
  have e : tWorthZ Z nx kp ee wh = if ¬ bH (Z 0) ee = 0 ∧ ¬ bW wh 1 99 = 0 then va_up (sKeep Z nx kp) 0 (zu (Z 0) 3 (cl ee) wh) else Z := by
    unfold tWorthZ
    by_cases c : bH (Z 0) ee = 0
    · rw [if_pos c, if_neg (fun q => q.1 c)]
    · by_cases d : bW wh 1 99 = 0
      · rw [if_neg c, if_pos d, if_neg (fun q => q.2 d)]
      · rw [if_neg c, if_neg d, if_pos ⟨c, d⟩]
  rw [e]
  exact ⟨chg_11 (z2 := zu (Z 0) 3 (cl ee) wh) h (by split; exact Or.inr rfl; exact Or.inl rfl), fun g2 hm => J_chg h hm (fun q => if_pos q) (fun q => if_neg q)⟩
theorem J_offer {pp ee wt mn : Int32} (h : JI Z n nx kp pl) : tOfferZ Z nx kp pp ee wt mn 11 = Z 11 ∧ ∀ g2, mChg (tErr (Z 0) pp ee wt mn = 0) (Z 11) kp (sOffer (Z 0) (cl pp) (cl ee) wt mn) n g2 → ∃ n' nx' kp' : Nat, JI (va_up (tOfferZ Z nx kp pp ee wt mn) 11 g2) n' nx' kp' pl := by
  unfold tOfferZ
  exact ⟨chg_11 (z2 := sOffer (Z 0) (cl pp) (cl ee) wt mn) h (by split; exact Or.inr rfl; exact Or.inl rfl), fun g2 hm => J_chg h hm (fun q => if_pos q) (fun q => if_neg q)⟩
theorem J_pay {pp pc : Int32} (h : JI Z n nx kp pl) : tPayZ Z nx kp pp pc 11 = Z 11 ∧ ∀ g2, mChg (¬ bW pp 0 9 = 0 ∧ ¬ bW pc 1 9999 = 0 ∧ pc ≤ Z 0 7 (cl pp)) (Z 11) kp (sPay (Z 0) (cl pp) pc) n g2 → ∃ n' nx' kp' : Nat, JI (va_up (tPayZ Z nx kp pp pc) 11 g2) n' nx' kp' pl := by
  have e : tPayZ Z nx kp pp pc = if ¬ bW pp 0 9 = 0 ∧ ¬ bW pc 1 9999 = 0 ∧ pc ≤ Z 0 7 (cl pp) then va_up (sKeep Z nx kp) 0 (sPay (Z 0) (cl pp) pc) else Z := by
    unfold tPayZ
    by_cases c : bW pp 0 9 = 0
    · rw [if_pos c, if_neg (fun q => q.1 c)]
    · by_cases d : bW pc 1 9999 = 0
      · rw [if_neg c, if_pos d, if_neg (fun q => q.2.1 d)]
      · by_cases f : pc ≤ Z 0 7 (cl pp)
        · rw [if_neg c, if_neg d, if_pos f, if_pos ⟨c, d, f⟩]
        · rw [if_neg c, if_neg d, if_neg f, if_neg (fun q => f q.2.2)]
  rw [e]
  exact ⟨chg_11 (z2 := sPay (Z 0) (cl pp) pc) h (by split; exact Or.inr rfl; exact Or.inl rfl), fun g2 hm => J_chg h hm (fun q => if_pos q) (fun q => if_neg q)⟩
theorem J_endTerm (h : JI Z n nx kp pl) : tEndZ Z nx kp 11 = Z 11 ∧ ∀ g2, mChg True (Z 11) kp (sTerm (Z 0)) n g2 → ∃ n' nx' kp' : Nat, JI (va_up (tEndZ Z nx kp) 11 g2) n' nx' kp' pl :=
  ⟨chg_11 (z2 := sTerm (Z 0)) h (Or.inr rfl), fun g2 hm => J_chg h hm (fun _ => rfl) (fun q => absurd trivial q)⟩
theorem J_undo (h : JI Z n nx kp pl) : tUndoZ Z nx kp 11 = Z 11 ∧ ∃ n' nx' kp' : Nat, JI (va_up (tUndoZ Z nx kp) 11 (if kp = 0 then Z 11 else mUnd (Z 11) kp)) n' nx' kp' pl := by
  unfold tUndoZ
  by_cases c : kp = 0
  · rw [if_pos c, if_pos c, va_up_i]; exact ⟨rfl, n, nx, kp, h⟩
  · rw [if_neg c, if_neg c]
    obtain ⟨a1, ⟨b1, b2, b3, b4, b5⟩, c1, d1, e1, e2, e3, e4⟩ := h
    have k : ∀ i : Nat, i ≠ 12 → i ≠ 0 → sBack Z nx kp i = Z i := fun i h1 h2 => by unfold sBack; rw [va_up_ne _ _ h2, va_up_ne _ _ h1]
    have k12 : sBack Z nx kp 12 = sRing (Z 12) ((nx + 6 - 1) % 6) (kp - 1) := by unfold sBack; rw [va_up_ne _ _ (by decide), va_up_e]
    have k0 : sBack Z nx kp 0 = sBec (Z 0) (Z (1 + (nx + 6 - 1) % 6)) := by unfold sBack; rw [va_up_e]
    have u : ∀ l : Nat, l ≠ 0 → l ≠ 2 → mUnd (Z 11) kp l = Z 11 l := fun l h0 h2 => by unfold mUnd zc; rw [va_up_ne _ _ h0, zu_o h2]
    obtain ⟨m, hm⟩ := c1 (kp - 1) (by omega)
    rw [show (nx + 6 - kp + (kp - 1)) % 6 = (nx + 6 - 1) % 6 by omega] at hm
    refine ⟨k 11 (by decide) (by decide), m, (nx + 6 - 1) % 6, kp - 1, ?_, ⟨Nat.mod_lt _ (by decide), by omega, ?_, ?_, ?_⟩, fun i hi => ?_, fun j hj => ?_, ?_, ?_, e3, fun j hj => ?_⟩
    · rw [va_up_ne _ _ (by decide), k0, va_up_e]
      refine (hm.congr (fun _ _ _ => rfl) (fun j hj => ?_)).bec
      show Z 11 1 (234 * (kp - 1) + j) = mUnd (Z 11) kp 0 j
      unfold mUnd zc
      rw [va_up_e, cS_at, if_pos (by omega), Nat.sub_zero]
    · rw [va_up_ne _ _ (by decide), k12]; rfl
    · rw [va_up_ne _ _ (by decide), k12]; rfl
    · rw [va_up_e]; unfold mUnd zc; rw [va_up_ne _ _ (by decide), zu_ee]
    · rw [va_up_ne _ _ (by omega), k _ (by omega) (by omega), va_up_e, u 1 (by decide) (by decide), show ((nx + 6 - 1) % 6 + 6 - (kp - 1) + i) % 6 = (nx + 6 - kp + i) % 6 by omega]
      exact c1 i (by omega)
    · rw [va_up_e, u 4 (by decide) (by decide), u 3 (by decide) (by decide), va_up_ne _ _ (by decide), k12, va_up_ne _ _ (by omega), k _ (by omega) (by omega)]
      exact d1 j hj
    · rw [va_up_ne _ _ (by decide), k 9 (by decide) (by decide)]; exact e1
    · rw [va_up_e, u 6 (by decide) (by decide)]; exact e2
    · rw [va_up_e, u 5 (by decide) (by decide), va_up_ne _ _ (by decide), k 9 (by decide) (by decide)]; exact e4 j hj
theorem J_save {sl : Int32} (h : JI Z n nx kp pl) : tSaveZ Z sl 11 = Z 11 ∧ tSave (Z 0) sl = (if bW sl 0 1 = 0 then -2 else Z 11 0 11) ∧ JI (va_up (tSaveZ Z sl) 11 (if bW sl 0 1 = 0 then Z 11 else mSav (Z 11) (cl sl))) n nx kp pl := by
  unfold tSaveZ tSave
  by_cases c : bW sl 0 1 = 0
  · rw [if_pos c, if_pos c, if_pos c, if_pos c, va_up_i]; exact ⟨rfl, rfl, h⟩
  · rw [if_neg c, if_neg c, if_neg c, if_neg c]
    obtain ⟨s, hs, rfl⟩ := bW_nat (m := 1) rfl (by decide) c
    rw [cl_nI (by omega)]
    obtain ⟨a1, ⟨b1, b2, b3, b4, b5⟩, c1, d1, e1, e2, e3, e4⟩ := h
    have k : ∀ i : Nat, i ≠ 12 → i ≠ 7 + s → va_up (va_up Z (7 + s) (sBec (Z (7 + s)) (Z 0))) 12 (zu (Z 12) 4 s 1) i = Z i := fun i h1 h2 => by rw [va_up_ne _ _ h1, va_up_ne _ _ h2]
    have u : ∀ l : Nat, l ≠ 3 → l ≠ 4 → mSav (Z 11) s l = Z 11 l := fun l h0 h2 => by unfold mSav zc; rw [zu_o h2, va_up_ne _ _ h0]
    refine ⟨k 11 (by decide) (by omega), (a1.1 14 0 rfl).symm, ?_, ⟨b1, b2, ?_, ?_, ?_⟩, fun i hi => ?_, fun j hj => ?_, ?_, ?_, e3, fun j hj => ?_⟩
    · rw [va_up_ne _ _ (by decide), k 0 (by decide) (by omega), va_up_e, u 0 (by decide) (by decide)]; exact a1
    · rw [va_up_ne _ _ (by decide), va_up_e]; exact b3
    · rw [va_up_ne _ _ (by decide), va_up_e]; exact b4
    · rw [va_up_e, u 2 (by decide) (by decide)]; exact b5
    · rw [va_up_ne _ _ (by omega), k _ (by omega) (by omega), va_up_e, u 1 (by decide) (by decide)]; exact c1 i hi
    · rw [va_up_e, va_up_ne _ _ (show 12 ≠ 11 by decide), va_up_e, va_up_ne _ _ (show 7 + j ≠ 11 by omega), va_up_ne _ _ (show 7 + j ≠ 12 by omega)]
      by_cases q : j = s
      · subst q
        refine ⟨?_, fun _ => ⟨n, ?_⟩⟩
        · unfold mSav; rw [zu_ee, zu_ee]
        · rw [va_up_e]
          refine (a1.congr (fun _ _ _ => rfl) (fun i hi => ?_)).bec
          show Z 11 0 i = mSav (Z 11) j 3 (234 * j + i)
          unfold mSav zc
          rw [zu_o (by decide), va_up_e, cS_at, if_pos (by omega), show 0 + (234 * j + i - 234 * j) = i by omega]
      · obtain ⟨f1, f2⟩ := d1 j hj
        have g4 : mSav (Z 11) s 4 j = Z 11 4 j := by unfold mSav zc; rw [zu_en q, va_up_ne _ _ (by decide)]
        have g12 : zu (Z 12) 4 s 1 4 j = Z 12 4 j := zu_en q
        rw [g4, g12, va_up_ne _ _ (show 7 + j ≠ 7 + s by omega)]
        refine ⟨f1, fun q2 => ?_⟩
        obtain ⟨m, hm⟩ := f2 q2
        refine ⟨m, hm.congr (fun _ _ _ => rfl) (fun i hi => ?_)⟩
        show Z 11 3 (234 * j + i) = mSav (Z 11) s 3 (234 * j + i)
        unfold mSav zc
        rw [zu_o (by decide), va_up_e, cS_at, if_neg (by omega)]
    · rw [va_up_ne _ _ (by decide), k 9 (by decide) (by omega)]; exact e1
    · rw [va_up_e, u 6 (by decide) (by decide)]; exact e2
    · rw [va_up_e, u 5 (by decide) (by decide), va_up_ne _ _ (by decide), k 9 (by decide) (by omega)]; exact e4 j hj
theorem J_restore {sl : Int32} (h : JI Z n nx kp pl) : tRestoreZ Z nx kp sl 11 = Z 11 ∧ tRestore Z nx kp sl = (if bW sl 0 1 = 0 then -2 else if Z 11 4 (cl sl) = 0 then -5 else mRst (Z 11) kp (cl sl) 0 11) ∧ ∃ n' nx' kp' : Nat, JI (va_up (tRestoreZ Z nx kp sl) 11 (if bW sl 0 1 = 0 then Z 11 else if Z 11 4 (cl sl) = 0 then Z 11 else mRst (Z 11) kp (cl sl))) n' nx' kp' pl := by
  unfold tRestoreZ tRestore
  by_cases c : bW sl 0 1 = 0
  · rw [if_pos c, if_pos c, if_pos c, if_pos c, va_up_i]; exact ⟨rfl, rfl, n, nx, kp, h⟩
  · rw [if_neg c, if_neg c, if_neg c, if_neg c]
    obtain ⟨s, hs, rfl⟩ := bW_nat (m := 1) rfl (by decide) c
    rw [cl_nI (by omega)]
    obtain ⟨f1, f2⟩ := h.2.2.2.1 s (by omega)
    rw [f1]
    by_cases d : Z 12 4 s = 0
    · rw [if_pos d, if_pos d, if_pos d, if_pos d, va_up_i]; exact ⟨rfl, rfl, n, nx, kp, h⟩
    · rw [if_neg d, if_neg d, if_neg d, if_neg d]
      obtain ⟨m, hm⟩ := f2 d
      have hnx := h.2.1.1
      have k7 : sKeep Z nx kp (7 + s) = Z (7 + s) := by unfold sKeep; rw [va_up_ne _ _ (by omega), va_up_ne _ _ (by omega)]
      have r3 : mRec (Z 11) kp 3 = Z 11 3 := mRec_o _ _ (by decide) (by decide)
      have hw : ∀ i : Nat, i < 234 → Z 11 3 (234 * s + i) = mRst (Z 11) kp s 0 i := fun i hi => by
        unfold mRst zc
        rw [va_up_e, cS_at, if_pos (by omega), Nat.sub_zero, r3]
      have hz : mS (sBec (Z 0) (Z (7 + s))) m (mRst (Z 11) kp s 0) := (hm.congr (fun _ _ _ => rfl) hw).bec
      have ho : ∀ l : Nat, l ≠ 0 → mRst (Z 11) kp s l = mRec (Z 11) kp l := fun l hl => by unfold mRst zc; rw [va_up_ne _ _ hl]
      rw [k7]
      refine ⟨?_, ?_, J_chg (ok := True) (z2 := sBec (Z 0) (Z (7 + s))) h (Or.inr ⟨trivial, hz, ho⟩) (fun _ => rfl) (fun q => absurd trivial q)⟩
      · rw [va_up_ne _ _ (by decide)]; exact sKeep_11 hnx
      · exact (hm.1 14 0 rfl).symm.trans (hw 11 (by decide))
end JOP
