/-! ===== p25: what a change answers and makes of the school ===== -/
theorem bW_in {v lo hi : Nat} (h1 : lo ≤ v) (h2 : v ≤ hi) (hb : hi < 2 ^ 30) : ¬ bW (nI v) (nI lo) (nI hi) = 0 := by
  unfold bW
  rw [if_neg (nI_nlt h1 (by omega)), if_neg (nI_nlt h2 (by omega))]; decide
theorem ti_sub {x y : Int32} (hx : -2 ^ 29 ≤ x.toInt ∧ x.toInt ≤ 2 ^ 29) (hy : -2 ^ 29 ≤ y.toInt ∧ y.toInt ≤ 2 ^ 29) : (x - y).toInt = x.toInt - y.toInt := by
  rw [Int32.toInt_sub, Int.bmod_eq_of_le (by omega) (by omega)]
theorem ti_add {x y : Int32} (hx : -2 ^ 29 ≤ x.toInt ∧ x.toInt ≤ 2 ^ 29) (hy : -2 ^ 29 ≤ y.toInt ∧ y.toInt ≤ 2 ^ 29) : (x + y).toInt = x.toInt + y.toInt := by
  rw [Int32.toInt_add, Int.bmod_eq_of_le (by omega) (by omega)]
section AC
variable {Z : Nat → Nat → Nat → Int32} {z : Nat → Nat → Int32} {n nx kp K p e m : Nat} {wt : Int32}
theorem ac_add (hn : n < 12) {k v : Nat} (hk : k < 5) (v1 : 1 ≤ v) (v99 : v ≤ 99) : tAdd n (nI k) (nI v) = nI n ∧ tAddZ Z nx kp n (nI k) (nI v) = va_up (sKeep Z nx kp) 0 (sAdd (Z 0) n (nI k) (nI v)) := by
  have b1 : ¬ bW (nI k) 0 4 = 0 := bW_in (lo := 0) (hi := 4) (Nat.zero_le _) (by omega) (by decide)
  have b2 : ¬ bW (nI v) 1 99 = 0 := bW_in (lo := 1) (hi := 99) v1 v99 (by decide)
  unfold tAdd tAddZ
  rw [if_neg b1, if_neg b2, if_pos hn, if_neg b1, if_neg b2, if_pos hn]
  exact ⟨rfl, rfl⟩
theorem ac_add2 (h : IV z n K) (hK : K ≤ 100) (hn : n < 12) {k v : Nat} (hk : k < 5) (v1 : 1 ≤ v) (v99 : v ≤ 99) : sAdd z n (nI k) (nI v) 2 n = nI k ∧ sAdd z n (nI k) (nI v) 3 n = nI v ∧ sUS (sAdd z n (nI k) (nI v)) n = 0 ∧ sNov (sAdd z n (nI k) (nI v)) 0 n = 100 := by
  have h2 := IV_add h hn hk v1 v99
  have e0 : sUS (sAdd z n (nI k) (nI v)) n = 0 := by
    obtain ⟨U, A, hU, hE, hP, h0⟩ := ap_uses h hK
    have e1 : sUS (sAdd z n (nI k) (nI v)) n = sUS z n := rfl
    rw [e1, (hE n hn).1, ns_z (fun p hp => h0 n (Nat.le_refl _) hn p hp)]; rfl
  refine ⟨?_, ?_, e0, ?_⟩
  · unfold sAdd; rw [zu_o (by decide), zu_o (by decide), zu_ee]
  · unfold sAdd; rw [zu_o (by decide), zu_ee]
  · obtain ⟨w, hw, e1, e2⟩ := ap_nov h2 hK (p := 0) (by decide) hn
    rw [e1, e2 e0]; rfl
theorem ac_fine (h : IV z n K) (hK : K ≤ 100) (hp : p < 10) : ∃ F : Nat, F ≤ 594000 ∧ z 7 p = nI F := by
  obtain ⟨h1, h2, h3, h4, h5, ⟨F, D, R, Q, f1, f2, f3, f4, f5, f6⟩, h7, h8, h9⟩ := h
  have := f5 p hp
  exact ⟨F p, by omega, (f1 p hp).1⟩
theorem ac_err (hn : z 1 0 = nI n) (hn12 : n ≤ 12) (hp : p < 10) (he : e < n) (hw : wt = -6 ∨ ∃ w : Nat, w < 10 ∧ wt = nI w ∧ w ≠ p) (m1 : 1 ≤ m) (m99 : m ≤ 99) : tErr z (nI p) (nI e) wt (nI m) = 0 := by
  unfold tErr
  have b1 : ¬ bW (nI m) 1 99 = 0 := bW_in (lo := 1) (hi := 99) m1 m99 (by decide)
  have b2 : ¬ (¬ wt = -6 ∧ bW wt 0 9 = 0) := fun q => by
    rcases hw with w | ⟨w, w1, w2, -⟩
    · exact q.1 w
    · subst w2; exact tPx w1 q.2
  have b3 : ¬ wt = nI p := fun q => by
    rcases hw with w | ⟨w, w1, w2, w3⟩
    · exact rf_big6 (a := p) (by omega) (q ▸ w)
    · rw [w2] at q; exact w3 ((nI_eq (by omega) (by omega)).mp q)
  rw [if_neg (tPx hp), if_neg (tEx hn hn12 he), if_neg b2, if_neg b1, if_neg b3]
theorem ac_why (hq : tErr z (nI p) (nI e) wt (nI m) = 0) (hp : p < 10) (he : e < 12) : tWhy z (nI p) (nI e) wt (nI m) = sReason z p e wt (nI m) := by
  unfold tWhy; rw [if_pos hq, cl_nI (by omega), cl_nI (by omega)]
theorem ac_wei (hq : tErr z (nI p) (nI e) wt (nI m) = 0) (hp : p < 10) (he : e < 12) : tWeight z (nI p) (nI e) wt (nI m) = 1000 + sWt z p e wt (nI m) := by
  unfold tWeight; rw [if_pos hq, cl_nI (by omega), cl_nI (by omega)]
theorem ac_off (hq : tErr (Z 0) (nI p) (nI e) wt (nI m) = 0) (hp : p < 10) (he : e < 12) : tOfferZ Z nx kp (nI p) (nI e) wt (nI m) = va_up (sKeep Z nx kp) 0 (sOffer (Z 0) p e wt (nI m)) := by
  unfold tOfferZ; rw [if_pos hq, cl_nI (by omega), cl_nI (by omega)]
theorem ac_r05 (z : Nat → Nat → Int32) (p e : Nat) (wt mn : Int32) : ¬ sReason z p e wt mn < 0 ∧ ¬ 5 ≤ sReason z p e wt mn := by
  by_cases c : sReason z p e wt mn = 0
  · rw [c]; exact ⟨by decide, by decide⟩
  · obtain ⟨r, r1, r4, q⟩ := sReason_nat z p e wt mn c
    rw [q]
    rcases (show r = 1 ∨ r = 2 ∨ r = 3 ∨ r = 4 by omega) with rfl | rfl | rfl | rfl <;> exact ⟨by decide, by decide⟩
theorem ac_r0 {mn : Int32} (h : sReason z p e wt mn = 0) : z 0 0 ≤ sWt z p e wt mn := by
  unfold sReason at h
  by_cases c1 : sU z p e < z 0 2
  · rw [if_pos c1] at h
    by_cases c2 : z 11 p = z 2 e
    · rw [if_pos c2] at h; exact absurd h (by decide)
    · rw [if_neg c2] at h
      by_cases c3 : ¬ wt = -6 ∧ z 6 (cl wt) = 0
      · rw [if_pos c3] at h; exact absurd h (by decide)
      · rw [if_neg c3] at h
        by_cases c4 : z 0 0 ≤ sWt z p e wt mn
        · exact c4
        · rw [if_neg c4] at h; exact absurd h (by decide)
  · rw [if_neg c1] at h; exact absurd h (by decide)
theorem ac_r4 {mn : Int32} (h : sReason z p e wt mn = 4) : ¬ z 0 0 ≤ sWt z p e wt mn := by
  unfold sReason at h
  by_cases c1 : sU z p e < z 0 2
  · rw [if_pos c1] at h
    by_cases c2 : z 11 p = z 2 e
    · rw [if_pos c2] at h; exact absurd h (by decide)
    · rw [if_neg c2] at h
      by_cases c3 : ¬ wt = -6 ∧ z 6 (cl wt) = 0
      · rw [if_pos c3] at h; exact absurd h (by decide)
      · rw [if_neg c3] at h
        by_cases c4 : z 0 0 ≤ sWt z p e wt mn
        · rw [if_pos c4] at h; exact absurd h (by decide)
        · exact c4
  · rw [if_neg c1] at h; exact absurd h (by decide)
theorem iS_4 {a : Nat → Int32} (h : iS a) : ∃ c : Nat, c ≤ 20 ∧ a 4 = nI c := bW_nat (m := 20) rfl (by decide) (h 4 (by decide))
theorem iS_0 {a : Nat → Int32} (h : iS a) : ∃ c : Nat, 1 ≤ c ∧ c ≤ 99 ∧ a 0 = nI c := by
  obtain ⟨d, hd, e, -⟩ := bW_off (c := a 0) (a := 1) (b := 99) rfl rfl (by decide) (by decide) (h 0 (by decide))
  exact ⟨1 + d, by omega, by omega, e⟩
theorem ti_n {c : Nat} (h : c ≤ 1000000) : -2 ^ 29 ≤ (nI c).toInt ∧ (nI c).toInt ≤ 2 ^ 29 := by rw [nI_toInt (by omega)]; omega
theorem ac_stand (h : IV z n K) {w : Nat} (hw : w < 10) : ∃ c : Nat, c ≤ 9 ∧ sStand z w p = nI c := by
  obtain ⟨c, hc, e⟩ := h.2.2.2.2.2.2.1 w hw
  unfold sStand
  by_cases q : w / 2 = p / 2
  · rw [if_pos q, e]
    exact ⟨c - 2, by omega, nI_max0 (b := 2) (by omega) (by decide)⟩
  · rw [if_neg q]; exact ⟨c, hc, e⟩
theorem ac_wt (h : IV z n K) (hK : K ≤ 100) (hp : p < 10) (he : e < n) (hw : wt = -6 ∨ ∃ w : Nat, w < 10 ∧ wt = nI w ∧ w ≠ p) (m99 : m ≤ 99) : -1000 ≤ (sWt z p e wt (nI m)).toInt ∧ (sWt z p e wt (nI m)).toInt ≤ 1000 := by
  have n12 := h.n12
  obtain ⟨nv, hnv, env, -⟩ := ap_nov h hK hp (e := e) (by omega)
  obtain ⟨-, v, v1, v99, ev⟩ := h.2.2.1 e he
  obtain ⟨gr, hgr, egr⟩ := iS_4 h.2.1
  obtain ⟨g, hg, eg⟩ := h.2.2.2.2.2.2.2.1 (p / 2) (by omega)
  have a1 : v * nv ≤ 99 * 100 := Nat.mul_le_mul v99 hnv
  have a2 : gr * g ≤ 20 * 9 := Nat.mul_le_mul hgr hg
  have e1 : z 3 e * sNov z p e / 100 = nI (v * nv / 100) := by rw [ev, env, pk_mul]; exact pk_div (d := 100) (by omega) (by decide) (by decide)
  have e2 : z 0 4 * z 12 (p / 2) = nI (gr * g) := by rw [egr, eg, pk_mul]
  have e3 : nI m / 10 = nI (m / 10) := pk_div (d := 10) (by omega) (by decide) (by decide)
  have t1 : (nI (v * nv / 100) - nI (gr * g)).toInt = (v * nv / 100 : Nat) - ((gr * g : Nat) : Int) := by rw [ti_sub (ti_n (by omega)) (ti_n (by omega)), nI_toInt (by omega), nI_toInt (by omega)]
  have t2 : (sBase z p e (nI m)).toInt = (v * nv / 100 : Nat) - ((gr * g : Nat) : Int) - ((m / 10 : Nat) : Int) := by
    unfold sBase
    rw [e1, e2, e3, ti_sub (by rw [t1]; omega) (ti_n (by omega)), t1, nI_toInt (by omega)]
  unfold sWt
  by_cases c : wt = -6
  · rw [if_pos c, t2]; omega
  · rw [if_neg c]
    obtain ⟨w, w1, w2, -⟩ := hw.resolve_left c
    rw [w2, cl_nI (by omega)]
    obtain ⟨s, hs, es⟩ := ac_stand (p := p) h w1
    rw [es, ti_add (by rw [t2]; omega) (ti_n (by omega)), t2, nI_toInt (by omega)]
    omega
theorem ac_k {a b : Int32} (ha : -1000 ≤ a.toInt ∧ a.toInt ≤ 1000) (hb : -1000 ≤ b.toInt ∧ b.toInt ≤ 1000) : 1000 + a < 1000 + b ↔ a < b := by
  have t : (1000 : Int32).toInt = 1000 := by decide
  rw [Int32.lt_iff_toInt_lt, Int32.lt_iff_toInt_lt, ti_add (by rw [t]; omega) (by omega), ti_add (by rw [t]; omega) (by omega)]
  omega
theorem ac_r67 (h : IV z n K) (hK : K ≤ 100) (hp : p < 10) (he : e < n) (hw : wt = -6 ∨ ∃ w : Nat, w < 10 ∧ wt = nI w ∧ w ≠ p) (m99 : m ≤ 99) : (¬ 0 < sReason z p e wt (nI m) → ¬ 1000 + sWt z p e wt (nI m) < 1000 + z 0 0) ∧ (sReason z p e wt (nI m) = 4 → ¬ 1000 + z 0 0 ≤ 1000 + sWt z p e wt (nI m)) := by
  have hb := ac_wt h hK hp he hw m99
  obtain ⟨c, c1, c99, ec⟩ := iS_0 h.2.1
  have hz : -1000 ≤ (z 0 0).toInt ∧ (z 0 0).toInt ≤ 1000 := by rw [ec, nI_toInt (by omega)]; omega
  refine ⟨fun q => ?_, fun q => ?_⟩
  · have r0 : sReason z p e wt (nI m) = 0 := Int32.le_antisymm (Int32.not_lt.mp q) (Int32.not_lt.mp (ac_r05 z p e wt (nI m)).1)
    rw [ac_k hb hz]
    exact Int32.not_lt.mpr (ac_r0 r0)
  · have := ac_r4 q
    rw [Int32.not_le, ac_k hb hz]
    exact Int32.not_le.mp this
/-! the sums behind an offer -/
theorem ac_s0 (z : Nat → Nat → Int32) (p e : Nat) (wt mn : Int32) : sOffer z p e wt mn 0 = z 0 := by rw [sOffer_o z (by decide), sOffer0_2 z (by decide)]
theorem ac_s1 (z : Nat → Nat → Int32) (p e : Nat) (wt mn : Int32) : sOffer z p e wt mn 1 = z 1 := by rw [sOffer_o z (by decide), sOffer0_2 z (by decide)]
theorem ac_s9 {mn : Int32} (hp : p < 10) : (sReason z p e wt mn = 0 → bx_sum (sOffer z p e wt mn 9) 10 = bx_sum (z 9) 10 + 1) ∧ (¬ sReason z p e wt mn = 0 → bx_sum (sOffer z p e wt mn 9) 10 = bx_sum (z 9) 10 + 0) := by
  rw [sOffer_o z (by decide)]
  unfold sOffer0
  refine ⟨fun q => ?_, fun q => ?_⟩
  · rw [if_pos q, sStamp_o (by decide) (by decide), sStamp0_9]
    exact bx_up 1 hp
  · rw [if_neg q, sRefuse_o (by decide) (by decide), zu_o (by decide), zu_o (by decide), zu_o (by decide), Int32.add_zero]
theorem ac_s13 {mn : Int32} (hp : p < 10) : (sReason z p e wt mn ≤ 0 → bx_sum (sOffer z p e wt mn 7) 10 + bx_sum (sOffer z p e wt mn 8) 10 = bx_sum (z 7) 10 + bx_sum (z 8) 10 + 0) ∧ (¬ sReason z p e wt mn ≤ 0 → bx_sum (sOffer z p e wt mn 7) 10 + bx_sum (sOffer z p e wt mn 8) 10 = bx_sum (z 7) 10 + bx_sum (z 8) 10 + z 0 3 * mn) := by
  rw [sOffer_o z (by decide), sOffer_o z (by decide)]
  unfold sOffer0
  refine ⟨fun q => ?_, fun q => ?_⟩
  · have r0 : sReason z p e wt mn = 0 := Int32.le_antisymm q (Int32.not_lt.mp (ac_r05 z p e wt mn).1)
    rw [if_pos r0, sStamp_o (by decide) (by decide), sStamp_o (by decide) (by decide), sStamp0_o (by decide), sStamp0_o (by decide), Int32.add_zero]
  · have r0 : ¬ sReason z p e wt mn = 0 := fun w => q (by rw [w]; exact Int32.le_refl _)
    have e7 : ∀ r : Nat, sRefuse z p wt mn r 7 = va_up (z 7) p (z 7 p + z 0 3 * mn) := fun r => by rw [sRefuse_o (by decide) (by decide), zu_o (by decide), zu_o (by decide), zu_e]
    have e8 : ∀ r : Nat, sRefuse z p wt mn r 8 = z 8 := fun r => by rw [sRefuse_o (by decide) (by decide), zu_o (by decide), zu_o (by decide), zu_o (by decide)]
    rw [if_neg r0, e7, e8, bx_up _ hp, Int32.add_assoc, Int32.add_comm (z 0 3 * mn), ← Int32.add_assoc]
theorem ac_w6 (z : Nat → Nat → Int32) (p e : Nat) (wt mn : Int32) : sOffer z p e wt mn 6 = z 6 ∨ (¬ wt = -6 ∧ ∃ c : Nat, c ≤ 2 ∧ sOffer z p e wt mn 6 = va_up (z 6) (cl wt) (sMax0 (z 6 (cl wt) - nI c))) := by
  have tk2 : ∀ (y : Nat → Nat → Int32) (c : Nat), y 6 = z 6 → c ≤ 2 → sTake y wt (nI c) 6 = z 6 ∨ (¬ wt = -6 ∧ ∃ d : Nat, d ≤ 2 ∧ sTake y wt (nI c) 6 = va_up (z 6) (cl wt) (sMax0 (z 6 (cl wt) - nI d))) := fun y c hy hc => by
    unfold sTake
    by_cases q : wt = -6
    · rw [if_pos q]; exact Or.inl hy
    · refine Or.inr ⟨q, c, hc, ?_⟩
      rw [if_neg q, zu_e, hy]
  rw [sOffer_o z (by decide)]
  unfold sOffer0
  by_cases r0 : sReason z p e wt mn = 0
  · rw [if_pos r0]
    unfold sStamp
    have h0 : sStamp0 z p e 6 = z 6 := sStamp0_o (by decide)
    by_cases c : mn ≤ 30
    · rw [if_pos c]; exact tk2 _ 1 h0 (by decide)
    · rw [if_neg c, sAnger_o (by decide)]; exact tk2 _ 1 h0 (by decide)
  · rw [if_neg r0]
    unfold sRefuse
    have h0 : ∀ r : Nat, sRefuse0 z p mn r 6 = z 6 := fun r => by unfold sRefuse0; rw [sAnger_o (by decide), zu_o (by decide), zu_o (by decide), zu_o (by decide)]
    by_cases c : cl (sReason z p e wt mn) = 4
    · rw [if_pos c]; exact tk2 _ 2 (h0 _) (by decide)
    · rw [if_neg c]; exact Or.inl (h0 _)
theorem ac_c15 (h : IV z n K) (hw : wt = -6 ∨ ∃ w : Nat, w < 10 ∧ wt = nI w ∧ w ≠ p) (mn : Int32) : ¬ bx_sum (z 6) 10 < bx_sum (sOffer z p e wt mn 6) 10 ∧ ¬ bx_sum (sOffer z p e wt mn 6) 10 < bx_sum (z 6) 10 - 2 ∧ (wt = -6 → bx_sum (sOffer z p e wt mn 6) 10 = bx_sum (z 6) 10) := by
  have hC : iC (z 6) := h.2.2.2.2.2.2.1
  obtain ⟨C, hCv⟩ : ∃ C : Nat → Nat, ∀ q : Nat, q < 10 → C q ≤ 9 ∧ z 6 q = nI (C q) := by
    have hv : ∀ q : Nat, ∃ v : Nat, q < 10 → v ≤ 9 ∧ z 6 q = nI v := fun q => by
      by_cases c : q < 10
      · obtain ⟨v, a, b⟩ := hC q c
        exact ⟨v, fun _ => ⟨a, b⟩⟩
      · exact ⟨0, fun w => absurd w c⟩
    exact ⟨fun q => Classical.choose (hv q), fun q hq => Classical.choose_spec (hv q) hq⟩
  have e1 : bx_sum (z 6) 10 = nI (ns C 10) := bx_ns (fun q hq => (hCv q hq).2)
  have b1 : ns C 10 ≤ ns (fun _ => 9) 10 := ns_mono (fun q hq => (hCv q hq).1)
  have b2 : ns (fun _ => 9) 10 = 90 := rfl
  have fin : ∀ S : Nat, S ≤ ns C 10 → ns C 10 ≤ S + 2 → ¬ nI (ns C 10) < nI S ∧ ¬ nI S < nI (ns C 10) - 2 := fun S s1 s2 => by
    refine ⟨nI_nlt s1 (by omega), ?_⟩
    have t2 : (2 : Int32).toInt = 2 := by decide
    rw [Int32.lt_iff_toInt_lt, ti_sub (ti_n (by omega)) (by rw [t2]; omega), nI_toInt (by omega), nI_toInt (by omega), t2]
    omega
  rcases ac_w6 z p e wt mn with q | ⟨q, c, hc, q2⟩
  · rw [q, e1]
    obtain ⟨f1, f2⟩ := fin (ns C 10) (Nat.le_refl _) (by omega)
    exact ⟨f1, f2, fun _ => rfl⟩
  · obtain ⟨w, w1, w2, -⟩ := hw.resolve_left q
    have ew : cl wt = w := by rw [w2]; exact cl_nI (by omega)
    rw [ew] at q2
    obtain ⟨cw, ecw⟩ := hCv w w1
    have e2 : sMax0 (z 6 w - nI c) = nI (C w - c) := by rw [ecw]; exact nI_max0 (by omega) (by omega)
    obtain ⟨D, hD⟩ : ∃ D, D = va_up C w (C w - c) := ⟨_, rfl⟩
    have e3 : bx_sum (sOffer z p e wt mn 6) 10 = nI (ns D 10) := by
      rw [q2]
      refine bx_ns (fun j hj => ?_)
      rw [hD]
      by_cases r : j = w
      · subst r; rw [va_up_e, va_up_e, e2]
      · rw [va_up_ne _ _ r, va_up_ne _ _ r]; exact (hCv j hj).2
    have e4 : ns C 10 = ns D 10 + min c (C w) := by
      have g1 : ∀ j : Nat, j < 10 → C j = va_up D w (D w + min c (C w)) j := fun j hj => by
        by_cases r : j = w
        · subst r; rw [va_up_e, hD, va_up_e]; omega
        · rw [va_up_ne _ _ r, hD, va_up_ne _ _ r]
      exact (ns_congr (f := C) (g := va_up D w (D w + min c (C w))) (n := 10) g1).trans (ns_up (f := D) _ w1)
    rw [e3, e1]
    obtain ⟨f1, f2⟩ := fin (ns D 10) (by omega) (by omega)
    exact ⟨f1, f2, fun w => absurd w q⟩
/-! the end of a term -/
theorem ac_t1 (h : IV z n K) (hK : K ≤ 100) : ¬ tEnd z < 0 ∧ ¬ bx_sum (sTerm z 9) 10 < tEnd z := by
  obtain ⟨h1, h2, h3, ⟨U, A, S, u1, u2, u3, u4, u5, u6, u7, u8, u9⟩, h5, h6, h7, h8, h9⟩ := h
  have e1 : tEnd z = nI (ns U 120) := bx_ns u1
  have e2 : bx_sum (sTerm z 9) 10 = nI (ns S 10) := by
    rw [show sTerm z 9 = z 9 from funext (fun j => sTerm_o z (by decide) j)]
    exact bx_ns u3
  have e3 : ns U 120 ≤ ns S 10 := by
    rw [show (120 : Nat) = 10 * 12 from rfl, ns_rows 10]
    exact ns_mono (fun p hp => u6 p hp)
  rw [e1, e2]
  exact ⟨nI_pos (by omega), nI_nlt e3 (by omega)⟩
theorem ac_t2 (z : Nat → Nat → Int32) : bx_sum (sTerm z 7) 10 = bx_sum (z 7) 10 ∧ sTerm z 0 1 = z 0 1 := by
  rw [show sTerm z 7 = z 7 from funext (fun j => sTerm_o z (by decide) j), show sTerm z 0 = z 0 from funext (fun j => sTerm_o z (by decide) j)]
  exact ⟨rfl, rfl⟩
theorem ac_nov (h : IV z n K) (hK : K < 100) (hp : p < 10) (he : e < 12) : sNov (sTerm z) p e = 100 := by
  have h2 := IV_term h
  obtain ⟨v, hv, e1, e2⟩ := ap_nov h2 (by omega) hp he
  rw [e1, e2 ?_]; rfl
  have : ∀ j : Nat, j < 10 → sTerm z 5 (e + 12 * j) = nI ((fun _ => 0) j) := fun j hj => sTerm_5 z (by omega)
  show bx_sum (fun p => sTerm z 5 (e + 12 * p)) 10 = 0
  rw [bx_ns (f := fun _ => 0) this]; rfl
theorem ac_t3 (h : IV z n K) (hK : K < 100) : sWOs (sTerm z) n = 0 := by
  have n12 := h.n12
  have g : ∀ m : Nat, m ≤ n → sCnt (fun e => sWO (sTerm z) e) m = 0 := fun m hm => by
    induction m with
    | zero => rfl
    | succ m ih =>
      show (if sWO (sTerm z) m = 0 then sCnt (fun e => sWO (sTerm z) e) m else sCnt (fun e => sWO (sTerm z) e) m + 1) = 0
      rw [if_pos ?_]
      · exact ih (by omega)
      · unfold sWO
        rw [if_neg (fun q => absurd (q 0 (by decide)) (by rw [ac_nov h hK (by decide) (by omega)]; decide))]
  exact g n (Nat.le_refl _)
theorem ac_t4 (h : IV z n K) (hp : p < 10) : sTerm z 11 p = -6 ∧ sUP (sTerm z) p = 0 ∧ ¬ sTerm z 6 p ≤ 1 ∧ ¬ 5 ≤ sTerm z 12 (p / 2) := by
  obtain ⟨c, hc, ec⟩ := h.2.2.2.2.2.2.1 p hp
  obtain ⟨g, hg, eg⟩ := h.2.2.2.2.2.2.2.1 (p / 2) (by omega)
  refine ⟨sTerm_11 z hp, ?_, ?_, ?_⟩
  · have : ∀ j : Nat, j < 12 → sU (sTerm z) p j = nI ((fun _ => 0) j) := fun j hj => sTerm_5 z (by omega)
    show bx_sum (fun e => sU (sTerm z) p e) 12 = 0
    rw [bx_ns (f := fun _ => 0) this]; rfl
  · rw [sTerm_6 z hp, ec, show nI c + 2 = nI (c + 2) from nI_add c 2, nI_min9 (by omega)]
    exact fun q => absurd ((nI_leI (b := 1) (by omega) (by decide)).mp q) (by omega)
  · rw [sTerm_12 z (by omega), eg, show nI g / 2 = nI (g / 2) from pk_div (d := 2) (by omega) (by decide) (by decide)]
    exact fun q => absurd ((nI_leI (a := 5) (by decide) (by omega)).mp q) (by omega)
/-! paying, worths, settings -/
theorem ac_pay1 {F q : Nat} (hp : p < 10) (hF : Z 0 7 p = nI F) (q1 : 1 ≤ q) (q2 : q ≤ 9999) (hl : F < q) : tPay (Z 0) (nI p) (nI q) = -5 ∧ tPayZ Z nx kp (nI p) (nI q) = Z := by
  have b : ¬ bW (nI q) 1 9999 = 0 := bW_in (lo := 1) (hi := 9999) q1 q2 (by decide)
  have l : ¬ nI q ≤ Z 0 7 p := by rw [hF, nI_leI (by omega) (by omega)]; omega
  unfold tPay tPayZ
  rw [if_neg (tPx hp), if_neg b, cl_nI (by omega), if_neg l, if_neg (tPx hp), if_neg b, if_neg l]
  exact ⟨rfl, rfl⟩
theorem ac_pay2 {F q : Nat} (hp : p < 10) (hFb : F ≤ 594000) (hF : Z 0 7 p = nI F) (q1 : 1 ≤ q) (q2 : q ≤ 9999) (hl : q ≤ F) : nI q ≤ Z 0 7 p ∧ tPay (Z 0) (nI p) (nI q) = nI (F - q) ∧ tPayZ Z nx kp (nI p) (nI q) = va_up (sKeep Z nx kp) 0 (sPay (Z 0) p (nI q)) := by
  have b : ¬ bW (nI q) 1 9999 = 0 := bW_in (lo := 1) (hi := 9999) q1 q2 (by decide)
  have l : nI q ≤ Z 0 7 p := by rw [hF, nI_leI (by omega) (by omega)]; omega
  unfold tPay tPayZ
  rw [if_neg (tPx hp), if_neg b, cl_nI (by omega), if_pos l, if_neg (tPx hp), if_neg b, if_pos l, hF, pk_sub hl]
  exact ⟨by rw [← hF]; exact l, rfl, rfl⟩
theorem ac_pay3 {F q : Nat} (hp : p < 10) (hF : z 7 p = nI F) (hl : q ≤ F) : sPay z p (nI q) 7 p = nI (F - q) ∧ bx_sum (sPay z p (nI q) 8) 10 = bx_sum (z 8) 10 + nI q := by
  refine ⟨?_, ?_⟩
  · unfold sPay; rw [zu_o (by decide), zu_ee, hF, pk_sub hl]
  · have e8 : sPay z p (nI q) 8 = va_up (z 8) p (z 8 p + nI q) := by unfold sPay; rw [zu_e, zu_o (by decide)]
    rw [e8]; exact bx_up _ hp
theorem ac_worth {v : Nat} (hn : Z 0 1 0 = nI n) (hn12 : n ≤ 12) (he : e < n) (v1 : 1 ≤ v) (v99 : v ≤ 99) : tWorth (Z 0) (nI e) (nI v) = Z 0 3 e ∧ tWorthZ Z nx kp (nI e) (nI v) = va_up (sKeep Z nx kp) 0 (zu (Z 0) 3 e (nI v)) := by
  have b : ¬ bW (nI v) 1 99 = 0 := bW_in (lo := 1) (hi := 99) v1 v99 (by decide)
  unfold tWorth tWorthZ
  rw [if_neg (tEx hn hn12 he), if_neg b, cl_nI (by omega), if_neg (tEx hn hn12 he), if_neg b]
  exact ⟨rfl, rfl⟩
theorem ac_set {w : Nat} {v : Int32} (hw : w < 5) (hb : ¬ bW v (pv_t1 w) (pv_t2 w) = 0) : tSet (Z 0) (nI w) v = Z 0 0 w ∧ tSetZ Z nx kp (nI w) v = va_up (sKeep Z nx kp) 0 (zu (Z 0) 0 w v) := by
  have b : ¬ bW (nI w) 0 4 = 0 := bW_in (lo := 0) (hi := 4) (Nat.zero_le _) (by omega) (by decide)
  unfold tSet tSetZ
  rw [if_neg b, cl_nI (by omega), if_neg hb, if_neg b, if_neg hb]
  exact ⟨rfl, rfl⟩
theorem ac_cnt {w : Nat} (hw : w < 5) (pl k2 : Int32) : tCount z n pl k2 (nI w) = z 0 w := by
  have b : ¬ bW (nI w) 0 4 = 0 := bW_in (lo := 0) (hi := 4) (Nat.zero_le _) (by omega) (by decide)
  unfold tCount
  rw [if_pos b, cl_nI (by omega)]
/-- what a change does: nothing, or the state before is kept and the school is another -/
def AC (Z : Nat → Nat → Nat → Int32) (nx kp K : Nat) (r : Int32) (Z1 : Nat → Nat → Nat → Int32) : Prop := (r = 0 ∧ Z1 = Z) ∨ (r = 1 ∧ ∃ (z2 : Nat → Nat → Int32) (n2 : Nat), Z1 = va_up (sKeep Z nx kp) 0 z2 ∧ IV z2 n2 (K + 1))
theorem lg_self (a : Int64) : lg_cmp a a = 0 := by
  unfold lg_cmp
  rw [if_neg (Int64.lt_irrefl), if_pos rfl]
end AC
