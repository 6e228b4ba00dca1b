theorem lcmp0 (y : Int64) : lg_cmp y 0 = 0 ↔ y.toUInt64.toNat = 0 := by
  have e : y = 0 ↔ y.toUInt64.toNat = 0 := by
    constructor
    · intro h; rw [h]; rfl
    · intro h
      have h2 : y.toUInt64 = 0 := UInt64.toNat_inj.mp h
      have h3 : y.toUInt64.toInt64 = (0 : UInt64).toInt64 := by rw [h2]
      rw [UInt64.toInt64_ofNat, Int64.toInt64_toUInt64] at h3
      exact h3
  rw [← e]
  unfold lg_cmp
  by_cases h1 : y > 0
  · rw [if_pos h1]
    exact ⟨fun q => absurd q (by decide), fun q => by rw [q] at h1; exact absurd h1 (by decide)⟩
  · rw [if_neg h1]
    by_cases h2 : y = 0
    · rw [if_pos h2]; exact ⟨fun _ => h2, fun _ => rfl⟩
    · rw [if_neg h2]; exact ⟨fun q => absurd q (by decide), fun q => absurd q h2⟩
theorem and255 (y : Int64) : (y &&& 255).toInt32 = nI (y.toUInt64.toNat % 256) := by
  have h := pk_tn (n := y.toUInt64.toNat % 256) (by omega)
  apply Int32.toBitVec_inj.mp
  apply BitVec.eq_of_toNat_eq
  rw [h]
  show ((y &&& 255).toBitVec.signExtend 32).toNat = _
  rw [BitVec.signExtend_eq_setWidth_of_le _ (by decide), BitVec.toNat_setWidth]
  have e1 : (y &&& 255).toBitVec.toNat = y.toUInt64.toNat % 256 := by
    rw [Int64.toBitVec_and, BitVec.toNat_and]
    show y.toUInt64.toNat &&& (2 ^ 8 - 1) = _
    rw [Nat.and_two_pow_sub_one_eq_mod]
  rw [e1]
  omega
theorem sh8 (y : Int64) : (y.toUInt64 >>> ((8 : Int32).toInt64.toUInt64 &&& Int64.toUInt64 63)).toInt64.toUInt64.toNat = y.toUInt64.toNat / 256 := by
  rw [UInt64.toUInt64_toInt64, UInt64.toNat_shiftRight, Nat.shiftRight_eq_div_pow]
  rfl
theorem kC_at2 (x : Int64) {i : Nat} (hi : i < 8) : ((x.toUInt64 >>> ((nI (8 * i)).toInt64.toUInt64 &&& Int64.toUInt64 63)).toInt64 &&& 255).toInt32 = nI (kC x i) := by
  rw [and255, UInt64.toUInt64_toInt64, kC_sh x hi]
  rfl
theorem sCh_stop {x : Int64} {i : Nat} (h : x.toUInt64.toNat / 2 ^ (8 * i) = 0) : ∀ m : Nat, sCh x m i = i
  | 0 => rfl
  | m + 1 => by
    have h0 : kC x i = 0 := by unfold kC; rw [h]
    unfold sCh
    rw [if_pos h0, if_pos h]
theorem sCh_bad {x : Int64} {i m : Nat} (hm : m + i = 8) (hi : i < 8) (h : ¬ x.toUInt64.toNat / 2 ^ (8 * i) = 0) (hb : bW (nI (kC x i)) 33 126 = 0) : sCh x m i = 0 := by
  obtain ⟨k, rfl⟩ : ∃ k, m = k + 1 := ⟨m - 1, by omega⟩
  unfold sCh
  by_cases c : kC x i = 0
  · rw [if_pos c, if_neg h]
  · rw [if_neg c, if_pos hb]
theorem sCh_next {x : Int64} {i m : Nat} (hb : ¬ bW (nI (kC x i)) 33 126 = 0) : sCh x (m + 1) i = sCh x m (i + 1) := by
  have c : ¬ kC x i = 0 := fun q => hb (by rw [q]; rfl)
  rw [sCh, if_neg c, if_neg hb]
theorem div_256 (a i : Nat) : a / 2 ^ (8 * i) / 256 = a / 2 ^ (8 * (i + 1)) := by
  rw [Nat.div_div_eq_div_mul, show (256 : Nat) = 2 ^ 8 by decide, ← Nat.pow_add, show 8 * i + 8 = 8 * (i + 1) by omega]
/-! the machine beside the reference's reader -/
def Run (ch : Nat → Int32) (pl s : Nat) (r : Nat → Nat → Int32) (s2 : Nat) (r2 : Nat → Nat → Int32) : Prop := s ≤ s2 ∧ s2 ≤ pl ∧ (cFlt ch (pl - s) s r).1 = (cFlt ch (pl - s2) s2 r2).1 ∧ ∀ z t, cRd ch (pl - s) s z r t = cRd ch (pl - s2) s2 z r2 t
theorem Run.rf {ch : Nat → Int32} {pl s : Nat} {r : Nat → Nat → Int32} (h : s ≤ pl) : Run ch pl s r s r := ⟨Nat.le_refl _, h, rfl, fun _ _ => rfl⟩
theorem Run.step {ch : Nat → Int32} {pl s0 s : Nat} {r0 r : Nat → Nat → Int32} (h : Run ch pl s0 r0 s r) (hs : s < pl) (hB : ¬ rB r (ch s) = 0) (hc : ¬ ch s = 44) : Run ch pl s0 r0 (s + 1) (rT r (ch s)) := by
  obtain ⟨h1, h2, h3, h4⟩ := h
  have e : pl - s = (pl - (s + 1)) + 1 := by omega
  refine ⟨by omega, by omega, ?_, fun z t => ?_⟩
  · rw [h3, e]; simp only [cFlt, hB, if_false]
  · rw [h4, e]; simp only [cRd, hc, if_false]
theorem Run.stop {ch : Nat → Int32} {pl s0 s : Nat} {r0 r : Nat → Nat → Int32} (h : Run ch pl s0 r0 s r) (he : rEnd r = 0) (hB : s < pl → rB r (ch s) = 0) : (cFlt ch (pl - s0) s0 r0).1 = nI s := by
  obtain ⟨h1, h2, h3, h4⟩ := h
  rw [h3]
  by_cases c : s < pl
  · rw [show pl - s = (pl - (s + 1)) + 1 by omega]
    simp only [cFlt, hB c, if_true]
  · rw [show pl - s = 0 by omega]
    simp only [cFlt, he, if_true]
theorem dig_ne44 {c lo hi : Int32} {a b : Nat} (hlo : lo = nI a) (hhi : hi = nI b) (hab : a ≤ b) (hb : b < 2 ^ 20) (ha : 44 < a) (h : ¬ bW c lo hi = 0) : ¬ c = 44 := by
  obtain ⟨d, hd, hc, -⟩ := bW_off hlo hhi hab hb h
  intro q
  rw [hc] at q
  have := (nI_eq (a := a + d) (b := 44) (by omega) (by decide)).mp q
  omega
section RUNS
variable {ch : Nat → Int32} {pl s0 s : Nat} {r0 r : Nat → Nat → Int32}
theorem R_pupil (h : Run ch pl s0 r0 s r) (q0 : r 0 0 = 0) (q4 : r 4 0 = -6) (hs : s < pl) (hd : ¬ bW (ch s) 48 57 = 0) : ∃ (d : Nat) (r2 : Nat → Nat → Int32), d < 10 ∧ ch s - 48 = nI d ∧ Run ch pl s0 r0 (s + 1) r2 ∧ r2 0 0 = 1 ∧ r2 1 0 = nI d ∧ r2 4 0 = -6 := by
  obtain ⟨d, hd1, -, hd2⟩ := rDig_d hd
  have hB : ¬ rB r (ch s) = 0 := by rw [show rB r (ch s) = rDig (ch s) by simp [rB, q0]]; exact hd
  refine ⟨d, _, hd1, hd2, h.step hs hB (dig_ne44 (a := 48) (b := 57) rfl rfl (by decide) (by decide) (by decide) hd), ?_⟩
  rw [show rT r (ch s) = rPupil r (ch s) by simp [rT, q0]]
  unfold rPupil rGo
  rw [if_neg (show ¬ rDig (ch s) = 0 from hd), if_neg (show ¬ rDig (ch s) = 0 from hd)]
  exact ⟨rfl, hd2, q4⟩
theorem F_pupil (h : Run ch pl s0 r0 s r) (q0 : r 0 0 = 0) (hd : ¬ (s < pl ∧ ¬ bW (ch s) 48 57 = 0)) : (cFlt ch (pl - s0) s0 r0).1 = nI s := h.stop (by simp [rEnd, q0]) (fun hs => by
  rw [show rB r (ch s) = rDig (ch s) by simp [rB, q0]]
  exact Classical.byContradiction (fun q => hd ⟨hs, q⟩))
theorem R_excuse {d : Nat} (h : Run ch pl s0 r0 s r) (q0 : r 0 0 = 1) (q1 : r 1 0 = nI d) (q4 : r 4 0 = -6) (hs : s < pl) (hd : ¬ bW (ch s) 97 108 = 0) : ∃ (e : Nat) (r2 : Nat → Nat → Int32), e < 12 ∧ ch s - 97 = nI e ∧ Run ch pl s0 r0 (s + 1) r2 ∧ r2 0 0 = 2 ∧ r2 1 0 = nI d ∧ r2 2 0 = nI e ∧ r2 4 0 = -6 := by
  obtain ⟨e, he1, -, he2⟩ := bW_off (a := 97) (b := 108) rfl rfl (by decide) (by decide) hd
  have hB : ¬ rB r (ch s) = 0 := by rw [show rB r (ch s) = bW (ch s) 97 108 by simp [rB, q0]]; exact hd
  refine ⟨e, _, by omega, he2, h.step hs hB (dig_ne44 (a := 97) (b := 108) rfl rfl (by decide) (by decide) (by decide) hd), ?_⟩
  rw [show rT r (ch s) = rExcuse r (ch s) by simp [rT, q0]]
  unfold rExcuse rGo
  rw [if_neg hd, if_neg hd]
  exact ⟨rfl, q1, he2, q4⟩
theorem F_excuse (h : Run ch pl s0 r0 s r) (q0 : r 0 0 = 1) (hd : ¬ (s < pl ∧ ¬ bW (ch s) 97 108 = 0)) : (cFlt ch (pl - s0) s0 r0).1 = nI s := h.stop (by simp [rEnd, q0]) (fun hs => by
  rw [show rB r (ch s) = bW (ch s) 97 108 by simp [rB, q0]]
  exact Classical.byContradiction (fun q => hd ⟨hs, q⟩))
theorem bW_one {c d : Int32} (h : ¬ bW c d d = 0) : c = d := by
  obtain ⟨h1, h2⟩ := bW_pos h
  exact Int32.le_antisymm (Int32.not_lt.mp h2) (Int32.not_lt.mp h1)
theorem bW_one0 {c d : Int32} (h : bW c d d = 0) : ¬ c = d := by
  intro q
  subst q
  unfold bW at h
  rw [if_neg Int32.lt_irrefl, if_neg Int32.lt_irrefl] at h
  exact absurd h (by decide)
theorem R_m {d e : Nat} (h : Run ch pl s0 r0 s r) (q0 : r 0 0 = 2) (q1 : r 1 0 = nI d) (q2 : r 2 0 = nI e) (q4 : r 4 0 = -6) (hs : s < pl) (hd : ¬ bW (ch s) 109 109 = 0) : ∃ r2 : Nat → Nat → Int32, Run ch pl s0 r0 (s + 1) r2 ∧ r2 0 0 = 3 ∧ r2 1 0 = nI d ∧ r2 2 0 = nI e ∧ r2 4 0 = -6 := by
  have hc := bW_one hd
  have hB : ¬ rB r (ch s) = 0 := by rw [show rB r (ch s) = bE (ch s) 109 by simp [rB, q0], hc]; decide
  refine ⟨_, h.step hs hB (by rw [hc]; decide), ?_⟩
  rw [show rT r (ch s) = rGo r (bE (ch s) 109) 3 by simp [rT, q0], hc]
  exact ⟨rfl, q1, q2, q4⟩
theorem F_m (h : Run ch pl s0 r0 s r) (q0 : r 0 0 = 2) (hd : ¬ (s < pl ∧ ¬ bW (ch s) 109 109 = 0)) : (cFlt ch (pl - s0) s0 r0).1 = nI s := h.stop (by simp [rEnd, q0]) (fun hs => by
  rw [show rB r (ch s) = bE (ch s) 109 by simp [rB, q0]]
  have q : bW (ch s) 109 109 = 0 := Classical.byContradiction (fun q => hd ⟨hs, q⟩)
  exact if_neg (bW_one0 q))
theorem F_min (h : Run ch pl s0 r0 s r) (q0 : r 0 0 = 3) (hd : ¬ (s < pl ∧ ¬ bW (ch s) 49 57 = 0)) : (cFlt ch (pl - s0) s0 r0).1 = nI s := h.stop (by simp [rEnd, q0]) (fun hs => by
  have q : bW (ch s) 49 57 = 0 := Classical.byContradiction (fun q => hd ⟨hs, q⟩)
  by_cases c : ch s = 48
  · simp [rB, q0, c]
  · rw [show rB r (ch s) = rDig (ch s) by simp [rB, q0, c]]
    refine Classical.byContradiction (fun h2 => ?_)
    obtain ⟨d, hd1, hd2, -⟩ := rDig_d h2
    rw [hd2] at q c
    have hd0 : d ≠ 0 := fun z => c (by rw [z]; rfl)
    unfold bW at q
    rw [if_neg (show ¬ nI (48 + d) < (49 : Int32) from nI_nlt (a := 48 + d) (b := 49) (by omega) (by omega)), if_neg (show ¬ (57 : Int32) < nI (48 + d) from nI_nlt (a := 57) (b := 48 + d) (by omega) (by omega))] at q
    exact absurd q (by decide))
/-- minutes: the first digit, and a second one if there is one -/
theorem R_min1 {d e : Nat} (h : Run ch pl s0 r0 s r) (q0 : r 0 0 = 3) (q1 : r 1 0 = nI d) (q2 : r 2 0 = nI e) (q4 : r 4 0 = -6) (hs : s < pl) {a : Nat} (ha1 : 1 ≤ a) (ha : a ≤ 9) (hc : ch s = nI (48 + a)) : ∃ r2 : Nat → Nat → Int32, Run ch pl s0 r0 (s + 1) r2 ∧ r2 0 0 = 4 ∧ r2 1 0 = nI d ∧ r2 2 0 = nI e ∧ r2 3 0 = nI a ∧ r2 4 0 = -6 := by
  have hd : ¬ rDig (ch s) = 0 := by
    rw [hc]; unfold rDig bW
    rw [if_neg (show ¬ nI (48 + a) < (48 : Int32) from nI_nlt (a := 48 + a) (b := 48) (by omega) (by omega)), if_neg (show ¬ (57 : Int32) < nI (48 + a) from nI_nlt (a := 57) (b := 48 + a) (by omega) (by omega))]; decide
  have h48 : ¬ ch s = 48 := fun q => by
    rw [hc] at q
    have := (nI_eq (a := 48 + a) (b := 48) (by omega) (by decide)).mp q
    omega
  have hB : ¬ rB r (ch s) = 0 := by rw [show rB r (ch s) = rDig (ch s) by simp [rB, q0, h48]]; exact hd
  refine ⟨_, h.step hs hB (fun q => by rw [hc] at q; have := (nI_eq (a := 48 + a) (b := 44) (by omega) (by decide)).mp q; omega), ?_⟩
  rw [show rT r (ch s) = rMin r (ch s) 0 4 by simp [rT, q0, h48]]
  unfold rMin rGo
  rw [if_neg hd, if_neg hd, hc]
  refine ⟨rfl, q1, q2, ?_, q4⟩
  show (10 * 0 + nI (48 + a) - 48 : Int32) = nI a
  rw [show (10 * 0 : Int32) = nI 0 from rfl, nI_add, show (48 : Int32) = nI 48 from rfl, pk_sub (by omega), show 0 + (48 + a) - 48 = a by omega]
theorem R_min2 {d e a : Nat} (h : Run ch pl s0 r0 s r) (q0 : r 0 0 = 4) (q1 : r 1 0 = nI d) (q2 : r 2 0 = nI e) (q3 : r 3 0 = nI a) (q4 : r 4 0 = -6) (hs : s < pl) {b : Nat} (hb : b < 10) (hc : ch s = nI (48 + b)) : ∃ r2 : Nat → Nat → Int32, Run ch pl s0 r0 (s + 1) r2 ∧ r2 0 0 = 5 ∧ r2 1 0 = nI d ∧ r2 2 0 = nI e ∧ r2 3 0 = nI (10 * a + b) ∧ r2 4 0 = -6 := by
  have hd : ¬ rDig (ch s) = 0 := by
    rw [hc]; unfold rDig bW
    rw [if_neg (show ¬ nI (48 + b) < (48 : Int32) from nI_nlt (a := 48 + b) (b := 48) (by omega) (by omega)), if_neg (show ¬ (57 : Int32) < nI (48 + b) from nI_nlt (a := 57) (b := 48 + b) (by omega) (by omega))]; decide
  have hB : ¬ rB r (ch s) = 0 := by rw [show rB r (ch s) = 1 by simp [rB, q0, hd]]; decide
  refine ⟨_, h.step hs hB (fun q => by rw [hc] at q; have := (nI_eq (a := 48 + b) (b := 44) (by omega) (by decide)).mp q; omega), ?_⟩
  rw [show rT r (ch s) = rMin r (ch s) (r 3 0) 5 by simp [rT, q0, hd]]
  unfold rMin rGo
  rw [if_neg hd, if_neg hd, hc, q3]
  refine ⟨rfl, q1, q2, ?_, q4⟩
  show (10 * nI a + nI (48 + b) - 48 : Int32) = nI (10 * a + b)
  rw [show (10 : Int32) = nI 10 from rfl, pk_mul, nI_add, show (48 : Int32) = nI 48 from rfl, pk_sub (by omega), show 10 * a + (48 + b) - 48 = 10 * a + b by omega]
theorem R_w {d e : Nat} {mn : Int32} (h : Run ch pl s0 r0 s r) (q0 : r 0 0 = 4 ∧ rDig (ch s) = 0 ∨ r 0 0 = 5) (q1 : r 1 0 = nI d) (q2 : r 2 0 = nI e) (q3 : r 3 0 = mn) (q4 : r 4 0 = -6) (hs : s < pl) (hd : ¬ bW (ch s) 119 119 = 0) : ∃ r2 : Nat → Nat → Int32, Run ch pl s0 r0 (s + 1) r2 ∧ r2 0 0 = 6 ∧ r2 1 0 = nI d ∧ r2 2 0 = nI e ∧ r2 3 0 = mn ∧ r2 4 0 = -6 := by
  have hc := bW_one hd
  have e1 : ¬ rB r (ch s) = 0 ∧ rT r (ch s) = rAfter r (ch s) := by
    rcases q0 with ⟨q0, hdg⟩ | q0
    · refine ⟨by rw [show rB r (ch s) = rAfterB (ch s) by simp [rB, q0, hdg], hc]; decide, ?_⟩
      have em : rMin r (ch s) mn 5 = r := by unfold rMin rGo; rw [if_pos hdg, if_pos hdg]
      rw [show rT r (ch s) = rAfter (rMin r (ch s) mn 5) (ch s) by simp [rT, q0, hdg, q3], em]
    · exact ⟨by rw [show rB r (ch s) = rAfterB (ch s) by simp [rB, q0], hc]; decide, by simp [rT, q0]⟩
  refine ⟨_, h.step hs e1.1 (by rw [hc]; decide), ?_⟩
  rw [e1.2, hc]
  exact ⟨rfl, q1, q2, q3, q4⟩
theorem F_wit {d : Nat} (h : Run ch pl s0 r0 s r) (q0 : r 0 0 = 6) (q1 : r 1 0 = nI d) (hdd : d < 10) (hd : (s < pl ∧ ¬ bW (ch s) (nI (48 + d)) (nI (48 + d)) = 0) ∨ ¬ (s < pl ∧ ¬ bW (ch s) 48 57 = 0)) : (cFlt ch (pl - s0) s0 r0).1 = nI s := h.stop (by simp [rEnd, q0]) (fun hs => by
  rw [show rB r (ch s) = rWitB r (ch s) by simp [rB, q0]]
  unfold rWitB
  rcases hd with ⟨-, hd⟩ | hd
  · have hc := bW_one hd
    rw [hc, q1, show (48 : Int32) = nI 48 from rfl, pk_sub (by omega), show 48 + d - 48 = d by omega, if_pos rfl]
    split <;> rfl
  · rw [if_pos (show rDig (ch s) = 0 from Classical.byContradiction (fun q => hd ⟨hs, q⟩))])
theorem R_wit {d e : Nat} {mn : Int32} (h : Run ch pl s0 r0 s r) (q0 : r 0 0 = 6) (q1 : r 1 0 = nI d) (q2 : r 2 0 = nI e) (q3 : r 3 0 = mn) (hdd : d < 10) (hs : s < pl) (hn : ¬ (s < pl ∧ ¬ bW (ch s) (nI (48 + d)) (nI (48 + d)) = 0)) (hd : ¬ bW (ch s) 48 57 = 0) : ∃ (w : Nat) (r2 : Nat → Nat → Int32), w < 10 ∧ ch s - 48 = nI w ∧ Run ch pl s0 r0 (s + 1) r2 ∧ r2 0 0 = 7 ∧ r2 1 0 = nI d ∧ r2 2 0 = nI e ∧ r2 3 0 = mn ∧ r2 4 0 = nI w := by
  obtain ⟨w, hw1, hw3, hw2⟩ := rDig_d hd
  have hne : ¬ ch s - 48 = r 1 0 := fun q => hn ⟨hs, fun q2 => bW_one0 q2 (by
    rw [hw2, q1] at q
    rw [hw3, (nI_eq (by omega) (by omega)).mp q])⟩
  have hb : rWitB r (ch s) = 1 := by unfold rWitB; rw [if_neg (show ¬ rDig (ch s) = 0 from hd), if_neg hne]
  have hB : ¬ rB r (ch s) = 0 := by rw [show rB r (ch s) = rWitB r (ch s) by simp [rB, q0], hb]; decide
  refine ⟨w, _, hw1, hw2, h.step hs hB (dig_ne44 (a := 48) (b := 57) rfl rfl (by decide) (by decide) (by decide) hd), ?_⟩
  rw [show rT r (ch s) = rWit r (ch s) by simp [rT, q0]]
  unfold rWit rGo
  rw [hb, if_neg (by decide), if_neg (by decide)]
  exact ⟨rfl, q1, q2, q3, hw2⟩
end RUNS
/-- behind an offer: only a comma may stand, and it begins anew -/
def rDone (r : Nat → Nat → Int32) : Prop := rEnd r = 1 ∧ rB r 44 = 1 ∧ (rT r 44) 0 0 = 0 ∧ (rT r 44) 4 0 = -6
theorem comma_done {r : Nat → Nat → Int32} : (rComma r 44) 0 0 = 0 ∧ (rComma r 44) 4 0 = -6 := ⟨rfl, rfl⟩
theorem D_4 {r : Nat → Nat → Int32} (q0 : r 0 0 = 4) : rDone r := by
  have em : rMin r 44 (r 3 0) 5 = r := by unfold rMin rGo; rw [if_pos (by decide), if_pos (by decide)]
  refine ⟨by simp [rEnd, q0], by rw [show rB r 44 = rAfterB 44 by simp [rB, q0, show rDig 44 = 0 by decide]]; decide, ?_⟩
  rw [show rT r 44 = rAfter (rMin r 44 (r 3 0) 5) 44 by simp [rT, q0, show rDig 44 = 0 by decide], em]
  exact comma_done (r := r)
theorem D_5 {r : Nat → Nat → Int32} (q0 : r 0 0 = 5) : rDone r := by
  refine ⟨by simp [rEnd, q0], by rw [show rB r 44 = rAfterB 44 by simp [rB, q0]]; decide, ?_⟩
  rw [show rT r 44 = rAfter r 44 by simp [rT, q0]]
  exact comma_done (r := r)
theorem D_7 {r : Nat → Nat → Int32} (q0 : r 0 0 = 7) : rDone r := by
  refine ⟨by simp [rEnd, q0], by rw [show rB r 44 = bE 44 44 by simp [rB, q0]]; decide, ?_⟩
  rw [show rT r 44 = rComma r 44 by simp [rT, q0]]
  exact comma_done (r := r)
theorem N_45 {r : Nat → Nat → Int32} {c : Int32} (q0 : r 0 0 = 4 ∧ rDig c = 0 ∨ r 0 0 = 5) (hw : bW c 119 119 = 0) (hc : ¬ c = 44) : rB r c = 0 := by
  have e : rAfterB c = 0 := by unfold rAfterB bE; rw [if_neg (bW_one0 hw), if_neg hc]
  rcases q0 with ⟨q0, hd⟩ | q0
  · simp [rB, q0, hd, e]
  · simp [rB, q0, e]
theorem N_7 {r : Nat → Nat → Int32} {c : Int32} (q0 : r 0 0 = 7) (hc : ¬ c = 44) : rB r c = 0 := by
  rw [show rB r c = bE c 44 by simp [rB, q0]]
  exact if_neg hc
