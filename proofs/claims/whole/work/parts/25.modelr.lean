theorem bx_congr {f g : Nat → Int32} : ∀ {n : Nat}, (∀ j : Nat, j < n → f j = g j) → bx_sum f n = bx_sum g n
  | 0, _ => rfl
  | n + 1, h => by
    show bx_sum f n + f n = bx_sum g n + g n
    rw [bx_congr (n := n) (fun j hj => h j (by omega)), h n (by omega)]
theorem bx_tail {f : Nat → Int32} {n : Nat} : ∀ m : Nat, (∀ j : Nat, n ≤ j → j < n + m → f j = 0) → bx_sum f (n + m) = bx_sum f n
  | 0, _ => rfl
  | m + 1, h => by
    show bx_sum f (n + m) + f (n + m) = bx_sum f n
    rw [bx_tail m (fun j h1 h2 => h j h1 (by omega)), h (n + m) (by omega) (by omega), Int32.add_zero]
theorem sUP_n {z : Nat → Nat → Int32} {n p : Nat} (hG : gd z n) (hp : p < 10) : bx_sum (fun e => sU z p e) n = sUP z p := by
  unfold sUP
  have h := bx_tail (f := fun e => sU z p e) (n := n) (12 - n) (fun j h1 h2 => hG.2.2.2.2.2.2.2.1 p j hp h1 (by have := hG.n12; omega))
  rw [show n + (12 - n) = 12 by have := hG.n12; omega] at h
  exact h.symm
theorem tErr_cases (z : Nat → Nat → Int32) (pp ee wt mn : Int32) : tErr z pp ee wt mn = 0 ∨ tErr z pp ee wt mn = -1 ∨ tErr z pp ee wt mn = -2 := by
  unfold tErr
  split
  · exact Or.inr (Or.inl rfl)
  · split
    · exact Or.inr (Or.inl rfl)
    · split
      · exact Or.inr (Or.inl rfl)
      · split
        · exact Or.inr (Or.inr rfl)
        · split
          · exact Or.inr (Or.inr rfl)
          · exact Or.inl rfl
theorem tErr_ge {z : Nat → Nat → Int32} {pp ee wt mn : Int32} (h : 0 ≤ tErr z pp ee wt mn) : tErr z pp ee wt mn = 0 := by
  rcases tErr_cases z pp ee wt mn with q | q | q
  · exact q
  · rw [q] at h; exact absurd h (by decide)
  · rw [q] at h; exact absurd h (by decide)
theorem tErr_lt {z : Nat → Nat → Int32} {pp ee wt mn : Int32} (h : ¬ 0 ≤ tErr z pp ee wt mn) : ¬ tErr z pp ee wt mn = 0 := fun q => h (by rw [q]; decide)
theorem sReason_gt {z : Nat → Nat → Int32} {p e : Nat} {wt mn : Int32} (h : ¬ sReason z p e wt mn ≤ 0) : ¬ sReason z p e wt mn = 0 := fun q => h (by rw [q]; decide)
theorem sReason_le {z : Nat → Nat → Int32} {p e : Nat} {wt mn : Int32} (h : sReason z p e wt mn ≤ 0) : sReason z p e wt mn = 0 := by
  by_cases q : sReason z p e wt mn = 0
  · exact q
  · obtain ⟨r, h1, h2, h3⟩ := sReason_nat z p e wt mn q
    rw [h3] at h
    exact absurd h (nI_nle (by omega) (by omega))
theorem bx_nat {f : Nat → Int32} {b : Nat} : ∀ {n : Nat}, (∀ j : Nat, j < n → ∃ u : Nat, u ≤ b ∧ f j = nI u) → ∃ v : Nat, v ≤ n * b ∧ bx_sum f n = nI v
  | 0, _ => ⟨0, by omega, rfl⟩
  | n + 1, h => by
    obtain ⟨v, hv, ev⟩ := bx_nat (n := n) (fun j hj => h j (by omega))
    obtain ⟨u, hu, eu⟩ := h n (by omega)
    refine ⟨v + u, by rw [Nat.add_mul]; omega, ?_⟩
    show bx_sum f n + f n = _
    rw [ev, eu, nI_add]
theorem nov_nat {z : Nat → Nat → Int32} {n p e : Nat} (hG : gd z n) (hp : p < 10) (he : e < 12) : ∃ v : Nat, v ≤ 100 ∧ sNov z p e = nI v := by
  obtain ⟨a, ha, hb⟩ := hG.2.2.2.2.2.2.1.1
  obtain ⟨u1, h1, e1⟩ := bx_nat (f := fun p => z 5 (e + 12 * p)) (b := 9) (n := 10) (fun j hj => hG.2.2.2.2.1 _ (by omega))
  obtain ⟨u2, h2, e2⟩ := hG.2.2.2.2.1 (2 * (p / 2) * 12 + e) (by omega)
  obtain ⟨u3, h3, e3⟩ := hG.2.2.2.2.1 (2 * (p / 2) * 12 + e + 12) (by omega)
  have hx : z 0 1 * (sUS z e + sUC z (p / 2) e) = nI (a * (u1 + (u2 + u3))) := by
    unfold sUS sUC
    rw [hb, e1, e2, e3, nI_add, nI_add, pk_mul]
  unfold sNov
  rw [hx]
  have hle : a * (u1 + (u2 + u3)) ≤ 50 * 108 := Nat.mul_le_mul ha (by omega)
  generalize a * (u1 + (u2 + u3)) = x at hle
  unfold sMax0
  by_cases c : x < 100
  · refine ⟨100 - x, by omega, ?_⟩
    rw [show (100 : Int32) - nI x = nI (100 - x) from pk_sub (a := 100) (b := x) (by omega), if_pos (show (0 : Int32) < nI (100 - x) from nI_lt (a := 0) (by omega) (by omega))]
  · refine ⟨0, by omega, ?_⟩
    rw [if_neg]
    · rfl
    · intro q
      by_cases c2 : x = 100
      · subst c2; exact absurd q (by decide)
      · exact absurd (Int32.lt_trans q (pk_sneg (a := 100) (b := x) (by omega) (by omega))) Int32.lt_irrefl
theorem nI_le0 {v : Nat} (h : v < 2 ^ 31) : nI v ≤ 0 ↔ v = 0 := by
  constructor
  · intro q
    rcases Nat.eq_zero_or_pos v with q2 | q2
    · exact q2
    · exact absurd q (nI_nle q2 h)
  · intro q; subst q; decide
theorem bx_zero {f : Nat → Int32} {b : Nat} (hb : b ≤ 1000) : ∀ {n : Nat}, n ≤ 1000 → (∀ j : Nat, j < n → ∃ u : Nat, u ≤ b ∧ f j = nI u) → bx_sum f n = 0 → ∀ j : Nat, j < n → f j = 0
  | 0, _, _, _, j, hj => absurd hj (Nat.not_lt_zero j)
  | n + 1, hn, h, hs, j, hj => by
    obtain ⟨v, hv, ev⟩ := bx_nat (n := n) (fun j hj => h j (by omega))
    obtain ⟨u, hu, eu⟩ := h n (by omega)
    have hs2 : bx_sum f n + f n = 0 := hs
    have hvb : v ≤ 1000 * 1000 := Nat.le_trans hv (Nat.mul_le_mul (by omega) hb)
    rw [ev, eu, nI_add] at hs2
    have h0 : v + u = 0 := (nI_eq (b := 0) (by omega) (by decide)).mp hs2
    rcases Nat.lt_succ_iff_lt_or_eq.mp hj with q | q
    · exact bx_zero hb (by omega) (fun j hj => h j (by omega)) (by rw [ev, show v = 0 by omega]; rfl) j q
    · subst q; rw [eu, show u = 0 by omega]; rfl
theorem wo_1 {z : Nat → Nat → Int32} {n e j : Nat} (hG : gd z n) (he : e < 12) (hj : j = 10) (h : bx_sum (fun p => sNov z p e) j = 0) : ¬ sWO z e = 0 := by
  subst hj
  have h2 := bx_zero (b := 100) (by decide) (by decide) (fun p hp => nov_nat hG hp he) h
  unfold sWO
  rw [if_pos (fun p hp => by rw [h2 p hp]; decide)]
  decide
theorem wo_0 {z : Nat → Nat → Int32} {n e j : Nat} (hG : gd z n) (he : e < 12) (hj : j = 10) (h : ¬ bx_sum (fun p => sNov z p e) j = 0) : sWO z e = 0 := by
  subst hj
  unfold sWO
  refine if_neg (fun q => h ?_)
  have h3 : bx_sum (fun p => sNov z p e) 10 = bx_sum (fun _ => 0) 10 := bx_congr (fun p hp => by
    obtain ⟨v, hv, ev⟩ := nov_nat hG hp he
    have h4 := q p hp
    rw [ev] at h4 ⊢
    rw [(nI_le0 (by omega)).mp h4]; rfl)
  rw [h3]; rfl
theorem sBE_inv (z : Nat → Nat → Int32) (p : Nat) (mn : Int32) : ∀ k : Nat, (sBE z p mn k).1 = -6 ∨ ∃ j : Nat, j < k ∧ (sBE z p mn k).1 = nI j ∧ (sBE z p mn k).2 = sWt z p j (-6) mn
  | 0 => Or.inl rfl
  | k + 1 => by
    have ih := sBE_inv z p mn k
    have up : (sBE z p mn k).1 = -6 ∨ ∃ j : Nat, j < k + 1 ∧ (sBE z p mn k).1 = nI j ∧ (sBE z p mn k).2 = sWt z p j (-6) mn := ih.imp id (fun ⟨j, h1, h2, h3⟩ => ⟨j, by omega, h2, h3⟩)
    simp only [sBE]
    split
    · split
      · exact Or.inr ⟨k, by omega, rfl, rfl⟩
      · split
        · exact up
        · exact Or.inr ⟨k, by omega, rfl, rfl⟩
    · exact up
theorem sBW_inv (z : Nat → Nat → Int32) (p e : Nat) (mn : Int32) : ∀ k : Nat, (sBW z p e mn k).1 = -6 ∨ ∃ j : Nat, j < k ∧ (sBW z p e mn k).1 = nI j ∧ (sBW z p e mn k).2 = sWt z p e (nI j) mn
  | 0 => Or.inl rfl
  | k + 1 => by
    have ih := sBW_inv z p e mn k
    have up : (sBW z p e mn k).1 = -6 ∨ ∃ j : Nat, j < k + 1 ∧ (sBW z p e mn k).1 = nI j ∧ (sBW z p e mn k).2 = sWt z p e (nI j) mn := ih.imp id (fun ⟨j, h1, h2, h3⟩ => ⟨j, by omega, h2, h3⟩)
    simp only [sBW]
    split
    · exact up
    · split
      · exact up
      · split
        · exact Or.inr ⟨k, by omega, rfl, rfl⟩
        · split
          · exact up
          · exact Or.inr ⟨k, by omega, rfl, rfl⟩
theorem toInt_add {x y : Int32} (h1 : -1000000 ≤ x.toInt) (h2 : x.toInt ≤ 1000000) (h3 : -1000000 ≤ y.toInt) (h4 : y.toInt ≤ 1000000) : (x + y).toInt = x.toInt + y.toInt := by
  rw [Int32.toInt_add]
  exact Int.bmod_eq_of_le (by omega) (by omega)
theorem toInt_sub {x y : Int32} (h1 : -1000000 ≤ x.toInt) (h2 : x.toInt ≤ 1000000) (h3 : -1000000 ≤ y.toInt) (h4 : y.toInt ≤ 1000000) : (x - y).toInt = x.toInt - y.toInt := by
  rw [Int32.toInt_sub]
  exact Int.bmod_eq_of_le (by omega) (by omega)
/-- the weight without its witness stays small -/
theorem base_b {z : Nat → Nat → Int32} {n p e : Nat} {mn : Int32} (hG : gd z n) (hp : p < 10) (he : e < 12) (hm : ¬ bW mn 1 99 = 0) : -1000 ≤ (sBase z p e mn).toInt ∧ (sBase z p e mn).toInt ≤ 1000 := by
  obtain ⟨d, hd, ed, -⟩ := bW_off (a := 1) (b := 99) rfl rfl (by decide) (by decide) hm
  obtain ⟨v, hv, ev⟩ := hG.2.2.2.2.2.1 e he
  obtain ⟨w, hw, ew⟩ := nov_nat hG hp he
  obtain ⟨a, ha, ea⟩ := hG.2.2.2.2.2.2.1.2.2
  obtain ⟨g, hg, eg⟩ := hG.2.2.2.1 (p / 2) (by omega)
  have hvw : v * w ≤ 99 * 100 := Nat.mul_le_mul hv hw
  have hag : a * g ≤ 20 * 9 := Nat.mul_le_mul ha hg
  have e1 : sBase z p e mn = nI (v * w / 100) - nI (a * g) - nI ((1 + d) / 10) := by
    unfold sBase
    rw [ev, ew, ea, eg, ed, pk_mul, pk_mul, show (100 : Int32) = nI 100 from rfl, show (10 : Int32) = nI 10 from rfl, pk_div (by omega) (by decide) (by decide), pk_div (by omega) (by decide) (by decide)]
  have t1 := nI_toInt (n := v * w / 100) (by omega)
  have t2 := nI_toInt (n := a * g) (by omega)
  have t3 := nI_toInt (n := (1 + d) / 10) (by omega)
  have hq : v * w / 100 ≤ 99 := by omega
  have s1 := toInt_sub (x := nI (v * w / 100)) (y := nI (a * g)) (by omega) (by omega) (by omega) (by omega)
  have s2 := toInt_sub (x := nI (v * w / 100) - nI (a * g)) (y := nI ((1 + d) / 10)) (by omega) (by omega) (by omega) (by omega)
  rw [e1]
  omega
theorem st_b {z : Nat → Nat → Int32} {n k p : Nat} (hG : gd z n) (hk : k < 10) : ∃ v : Nat, v ≤ 9 ∧ sSt z (nI k) p = nI v := by
  obtain ⟨c, hc, ec⟩ := hG.2.2.1 k hk
  have e6 : ¬ nI k = -6 := fun q => absurd (nI_pos (n := k) (by omega)) (by rw [q]; decide)
  unfold sSt
  rw [if_neg e6, cl_nI (by omega)]
  unfold sStand
  split
  · rw [ec, sMax0_c hc]
    rcases (show c = 0 ∨ c = 1 ∨ c = 2 ∨ c = 3 ∨ c = 4 ∨ c = 5 ∨ c = 6 ∨ c = 7 ∨ c = 8 ∨ c = 9 by omega) with rfl | rfl | rfl | rfl | rfl | rfl | rfl | rfl | rfl | rfl
    · exact ⟨0, by decide, by decide⟩
    · exact ⟨0, by decide, by decide⟩
    · exact ⟨0, by decide, by decide⟩
    · exact ⟨1, by decide, by decide⟩
    · exact ⟨2, by decide, by decide⟩
    · exact ⟨3, by decide, by decide⟩
    · exact ⟨4, by decide, by decide⟩
    · exact ⟨5, by decide, by decide⟩
    · exact ⟨6, by decide, by decide⟩
    · exact ⟨7, by decide, by decide⟩
  · exact ⟨c, hc, ec⟩
theorem wt_cmp {z : Nat → Nat → Int32} {n p e k j : Nat} {mn : Int32} (hG : gd z n) (hp : p < 10) (he : e < 12) (hm : ¬ bW mn 1 99 = 0) (hk : k < 10) (hj : j < 10) : sWt z p e (nI k) mn ≤ sWt z p e (nI j) mn ↔ sSt z (nI k) p ≤ sSt z (nI j) p := by
  obtain ⟨b1, b2⟩ := base_b hG hp he hm
  obtain ⟨v, hv, ev⟩ := st_b (p := p) hG hk
  obtain ⟨u, hu, eu⟩ := st_b (p := p) hG hj
  rw [← sWt_st, ← sWt_st, ev, eu]
  have t1 := nI_toInt (n := v) (by omega)
  have t2 := nI_toInt (n := u) (by omega)
  have s1 := toInt_add (x := sBase z p e mn) (y := nI v) (by omega) (by omega) (by omega) (by omega)
  have s2 := toInt_add (x := sBase z p e mn) (y := nI u) (by omega) (by omega) (by omega) (by omega)
  rw [Int32.le_iff_toInt_le, Int32.le_iff_toInt_le]
  omega
