/-! ===== p25: what the law asks of a school's table, from IV ===== -/
theorem nI_z {a : Nat} (h : a < 2 ^ 31) : nI a = 0 ↔ a = 0 := nI_eq (b := 0) h (by decide)
/-- the set of users, as a number -/
def mkN (g : Nat → Nat) : Nat → Nat | 0 => 0 | n + 1 => if 0 < g n then mkN g n + 2 ^ n else mkN g n
theorem mkN_lt (g : Nat → Nat) : ∀ n : Nat, mkN g n < 2 ^ n
  | 0 => by show 0 < 2 ^ 0; decide
  | n + 1 => by
    have h := mkN_lt g n
    have e : (2 : Nat) ^ (n + 1) = 2 ^ n * 2 := rfl
    show (if 0 < g n then mkN g n + 2 ^ n else mkN g n) < 2 ^ (n + 1)
    split <;> omega
theorem mkN_bit (g : Nat → Nat) {p : Nat} : ∀ {n : Nat}, p < n → mkN g n / 2 ^ p % 2 = if 0 < g p then 1 else 0
  | 0, h => absurd h (Nat.not_lt_zero p)
  | n + 1, h => by
    show (if 0 < g n then mkN g n + 2 ^ n else mkN g n) / 2 ^ p % 2 = _
    have hl := mkN_lt g n
    rcases Nat.lt_or_ge p n with q | q
    · have ih := mkN_bit g q
      obtain ⟨b, rfl⟩ : ∃ b, n = p + (b + 1) := ⟨n - p - 1, by omega⟩
      by_cases c : 0 < g (p + (b + 1))
      · rw [if_pos c, ← ih, Nat.pow_add, Nat.add_mul_div_left _ _ (Nat.two_pow_pos p), Nat.pow_succ]; omega
      · rw [if_neg c]; exact ih
    · have e : p = n := by omega
      subst e
      by_cases c : 0 < g p
      · rw [if_pos c, if_pos c, Nat.add_div_right _ (Nat.two_pow_pos p), Nat.div_eq_of_lt hl]
      · rw [if_neg c, if_neg c, Nat.div_eq_of_lt hl]
theorem mkN_0 (g : Nat → Nat) : ∀ n : Nat, mkN g n = 0 ↔ ns g n = 0
  | 0 => ⟨fun _ => rfl, fun _ => rfl⟩
  | n + 1 => by
    show (if 0 < g n then mkN g n + 2 ^ n else mkN g n) = 0 ↔ ns g n + g n = 0
    have ih := mkN_0 g n
    have := Nat.two_pow_pos n
    by_cases c : 0 < g n
    · rw [if_pos c]; omega
    · rw [if_neg c, ih]; omega
/-- how many bits -/
def pcN (v : Nat) : Nat := ns (fun i => v / 2 ^ i % 2) 10
theorem pcN_le (g : Nat → Nat) : pcN (mkN g 10) ≤ ns g 10 := by
  refine ns_mono (fun j hj => ?_)
  rw [mkN_bit g hj]
  split <;> omega
theorem or_bit : ∀ n : Nat, n < 10 → ∀ a : Nat, a < 2 ^ n → nI a ||| (1 <<< (nI n &&& 31)) = nI (a + 2 ^ n) := by decide +kernel
theorem sh_bit : ∀ p : Nat, p < 10 → ∀ v : Nat, v < 1024 → (nI v >>> (nI p &&& 31)) &&& 1 = nI (v / 2 ^ p % 2) := by decide +kernel
theorem pc_step : ∀ v : Nat, v < 1024 → v ≠ 0 → nI v &&& (nI v - 1) = nI (v &&& (v - 1)) ∧ (v &&& (v - 1)) < v ∧ pcN (v &&& (v - 1)) + 1 = pcN v := by decide +kernel
theorem sSet_mk {f : Nat → Int32} {g : Nat → Nat} (hg : ∀ p : Nat, p < 10 → g p < 2 ^ 30) : ∀ {n : Nat}, n ≤ 10 → (∀ p : Nat, p < n → f p = nI (g p)) → sSet f n = nI (mkN g n)
  | 0, _, _ => rfl
  | n + 1, hn, h => by
    show (if 0 < f n then sSet f n ||| (1 <<< (nI n &&& 31)) else sSet f n) = nI (if 0 < g n then mkN g n + 2 ^ n else mkN g n)
    rw [sSet_mk hg (by omega) (fun p hp => h p (by omega)), h n (by omega)]
    have b := hg n (by omega)
    by_cases c : 0 < g n
    · rw [if_pos (show (0 : Int32) < nI (g n) from nI_lt c (by omega)), if_pos c]
      exact or_bit n (by omega) _ (mkN_lt g n)
    · have e : g n = 0 := by omega
      rw [e, if_neg (show ¬ (0 : Int32) < nI 0 by decide), if_neg (by decide)]
section AP
variable {z : Nat → Nat → Int32} {n K p e : Nat}
theorem tPx (hp : p < 10) : ¬ bW (nI p) 0 9 = 0 := by rw [show (9 : Int32) = nI 9 from rfl, bW_of (by omega) (by decide)]; decide
theorem tP0 (hp : p < 10) : tPupil z (nI p) 0 = z 6 p := by unfold tPupil; rw [if_neg (tPx hp), if_pos rfl, cl_nI (by omega)]
theorem tP1 (hp : p < 10) : tPupil z (nI p) 1 = z 7 p := by unfold tPupil; rw [if_neg (tPx hp), if_neg (by decide), if_pos rfl, cl_nI (by omega)]
theorem tP2 (hp : p < 10) : tPupil z (nI p) 2 = z 9 p := by unfold tPupil; rw [if_neg (tPx hp), if_neg (by decide), if_neg (by decide), if_pos rfl, cl_nI (by omega)]
theorem tP3 (hp : p < 10) : tPupil z (nI p) 3 = z 10 p := by unfold tPupil; rw [if_neg (tPx hp), if_neg (by decide), if_neg (by decide), if_neg (by decide), if_pos rfl, cl_nI (by omega)]
theorem tP4 (hp : p < 10) : tPupil z (nI p) 4 = z 11 p := by unfold tPupil; rw [if_neg (tPx hp), if_neg (by decide), if_neg (by decide), if_neg (by decide), if_neg (by decide), if_pos rfl, cl_nI (by omega)]
theorem tP5 (hp : p < 10) : tPupil z (nI p) 5 = sUP z p := by unfold tPupil; rw [if_neg (tPx hp), if_neg (by decide), if_neg (by decide), if_neg (by decide), if_neg (by decide), if_neg (by decide), if_pos rfl, cl_nI (by omega)]
theorem tP6 {m : Nat} (hp : p < 10) (hm : p / 2 = m) : tPupil z (nI p) 6 = z 12 m := by subst hm; unfold tPupil; rw [if_neg (tPx hp), if_neg (by decide), if_neg (by decide), if_neg (by decide), if_neg (by decide), if_neg (by decide), if_neg (by decide), if_pos rfl, cl_nI (by omega)]
theorem tP7 (hp : p < 10) : tPupil z (nI p) 7 = z 8 p := by unfold tPupil; rw [if_neg (tPx hp), if_neg (by decide), if_neg (by decide), if_neg (by decide), if_neg (by decide), if_neg (by decide), if_neg (by decide), if_neg (by decide), if_pos rfl, cl_nI (by omega)]
theorem tEx (hn : z 1 0 = nI n) (hn12 : n ≤ 12) (he : e < n) : ¬ bH z (nI e) = 0 := by
  unfold bH
  rw [if_neg (nI_pos (by omega)), if_neg (by rw [hn]; exact fun q => absurd ((nI_leI (by omega) (by omega)).mp q) (by omega))]; decide
theorem tE0 (hn : z 1 0 = nI n) (hn12 : n ≤ 12) (he : e < n) : tExcuse z (nI e) 0 = z 2 e := by unfold tExcuse; rw [if_neg (tEx hn hn12 he), if_pos rfl, cl_nI (by omega)]
theorem tE1 (hn : z 1 0 = nI n) (hn12 : n ≤ 12) (he : e < n) : tExcuse z (nI e) 1 = z 3 e := by unfold tExcuse; rw [if_neg (tEx hn hn12 he), if_neg (by decide), if_pos rfl, cl_nI (by omega)]
theorem tE2 (hn : z 1 0 = nI n) (hn12 : n ≤ 12) (he : e < n) : tExcuse z (nI e) 2 = sUS z e := by unfold tExcuse; rw [if_neg (tEx hn hn12 he), if_neg (by decide), if_neg (by decide), if_pos rfl, cl_nI (by omega)]
theorem tE3 (hn : z 1 0 = nI n) (hn12 : n ≤ 12) (he : e < n) : tExcuse z (nI e) 3 = z 4 e := by unfold tExcuse; rw [if_neg (tEx hn hn12 he), if_neg (by decide), if_neg (by decide), if_neg (by decide), if_pos rfl, cl_nI (by omega)]
theorem tE4 (hn : z 1 0 = nI n) (hn12 : n ≤ 12) (he : e < n) : tExcuse z (nI e) 4 = sUsers z e := by unfold tExcuse; rw [if_neg (tEx hn hn12 he), if_neg (by decide), if_neg (by decide), if_neg (by decide), if_neg (by decide), if_pos rfl, cl_nI (by omega)]
theorem tNv (hn : z 1 0 = nI n) (hn12 : n ≤ 12) (hp : p < 10) (he : e < n) : tNovelty z (nI p) (nI e) = sNov z p e := by
  unfold tNovelty; rw [if_neg (tPx hp), if_neg (tEx hn hn12 he), cl_nI (by omega), cl_nI (by omega)]
theorem tC (pl kp : Int32) : tCount z n pl kp 0 = z 0 0 ∧ tCount z n pl kp 1 = z 0 1 ∧ tCount z n pl kp 2 = z 0 2 ∧ tCount z n pl kp 3 = z 0 3 ∧ tCount z n pl kp 4 = z 0 4 ∧ tCount z n pl kp 5 = z 1 0 ∧ tCount z n pl kp 6 = bx_sum (z 9) 10 ∧ tCount z n pl kp 7 = z 13 1 ∧ tCount z n pl kp 8 = z 13 2 ∧ tCount z n pl kp 9 = z 13 3 ∧ tCount z n pl kp 10 = z 13 4 ∧ tCount z n pl kp 11 = bx_sum (z 7) 10 ∧ tCount z n pl kp 12 = bx_sum (z 8) 10 ∧ tCount z n pl kp 13 = bx_sum (z 7) 10 + bx_sum (z 8) 10 ∧ tCount z n pl kp 14 = z 14 0 ∧ tCount z n pl kp 15 = bx_sum (z 6) 10 ∧ tCount z n pl kp 16 = bx_sum (z 12) 5 ∧ tCount z n pl kp 17 = sWOs z n ∧ tCount z n pl kp 18 = pl ∧ tCount z n pl kp 19 = kp :=
  ⟨rfl, rfl, rfl, rfl, rfl, rfl, rfl, rfl, rfl, rfl, rfl, rfl, rfl, rfl, rfl, rfl, rfl, rfl, rfl, rfl⟩
/-- a pupil -/
theorem ap_p (h : IV z n K) (hK : K ≤ 100) (hp : p < 10) : (¬ z 6 p < 0 ∧ ¬ 10 ≤ z 6 p ∧ ¬ z 7 p < 0 ∧ ¬ z 12 (p / 2) < 0 ∧ ¬ 10 ≤ z 12 (p / 2)) ∧ (z 11 p = -6 ∨ (¬ z 11 p < 0 ∧ ¬ 5 ≤ z 11 p)) ∧ ¬ z 9 p < sUP z p ∧ (z 11 p = -6 → sUP z p = 0) ∧ ¬ z 8 p < 0 ∧ (¬ 0 < z 10 p → z 7 p + z 8 p = 0) := by
  obtain ⟨h1, h2, h3, ⟨U, A, S, u1, u2, u3, u4, u5, u6, u7, u8, u9⟩, h5, ⟨F, D, R, Q, f1, f2, f3, f4, f5, f6⟩, h7, h8, h9⟩ := h
  obtain ⟨c, hc, c2⟩ := h7 p hp
  obtain ⟨g, hg, g2⟩ := h8 (p / 2) (by omega)
  have hs := ns_le (f := S) hp
  have hr := ns_le (f := R) hp
  have hf := f5 p hp
  have hu := u6 p hp
  have eU : sUP z p = nI (ns (fun e => U (p * 12 + e)) 12) := bx_ns (fun j hj => u1 _ (by omega))
  refine ⟨⟨?_, ?_, ?_, ?_, ?_⟩, ?_, ?_, ?_, ?_, ?_⟩
  · rw [c2]; exact nI_pos (by omega)
  · rw [c2]; exact fun q => absurd ((nI_leI (a := 10) (by decide) (by omega)).mp q) (by omega)
  · rw [(f1 p hp).1]; exact nI_pos (by omega)
  · rw [g2]; exact nI_pos (by omega)
  · rw [g2]; exact fun q => absurd ((nI_leI (a := 10) (by decide) (by omega)).mp q) (by omega)
  · rcases h5 p hp with q | ⟨k, hk, q⟩
    · exact Or.inl q
    · rw [q]; exact Or.inr ⟨nI_pos (by omega), fun q => absurd ((nI_leI (a := 5) (by decide) (by omega)).mp q) (by omega)⟩
  · rw [eU, u3 p hp]; exact nI_nlt hu (by omega)
  · intro q; rw [eU, u7 p hp q]; rfl
  · rw [(f1 p hp).2.1]; exact nI_pos (by omega)
  · intro q
    rw [(f1 p hp).2.2] at q
    have r0 : R p = 0 := by
      rcases Nat.eq_zero_or_pos (R p) with w | w
      · exact w
      · exact absurd (nI_lt (a := 0) w (by omega)) q
    rw [(f1 p hp).1, (f1 p hp).2.1, nI_add, f4 p hp r0]; rfl
theorem ap_uses (h : IV z n K) (hK : K ≤ 100) : ∃ U A : Nat → Nat, (∀ p e : Nat, p < 10 → e < 12 → sU z p e = nI (U (p * 12 + e)) ∧ U (p * 12 + e) ≤ K) ∧ (∀ e : Nat, e < 12 → sUS z e = nI (ns (fun p => U (p * 12 + e)) 10) ∧ ns (fun p => U (p * 12 + e)) 10 ≤ A e ∧ z 4 e = nI (A e) ∧ A e ≤ K) ∧ (∀ p : Nat, p < 10 → sUP z p = nI (ns (fun e => U (p * 12 + e)) 12) ∧ ns (fun e => U (p * 12 + e)) 12 ≤ K) ∧ (∀ e : Nat, n ≤ e → e < 12 → ∀ p : Nat, p < 10 → U (p * 12 + e) = 0) := by
  obtain ⟨h1, h2, h3, ⟨U, A, S, u1, u2, u3, u4, u5, u6, u7, u8, u9⟩, h5, h6, h7, h8, h9⟩ := h
  refine ⟨U, A, fun p e hp he => ⟨u1 _ (by omega), ?_⟩, fun e he => ⟨?_, u5 e he, u2 e he, ?_⟩, fun p hp => ⟨bx_ns (fun j hj => u1 _ (by omega)), ?_⟩, fun e q1 q2 => (u4 e q1 q2).2⟩
  · have a := ns_le (f := fun e => U (p * 12 + e)) he
    have b := u6 p hp
    have c := ns_le (f := S) hp
    have a : U (p * 12 + e) ≤ ns (fun e => U (p * 12 + e)) 12 := a
    omega
  · refine bx_ns (fun j hj => ?_)
    rw [u1 _ (by omega), show e + 12 * j = j * 12 + e by omega]
  · have a := ns_le (f := A) he
    omega
  · have b := u6 p hp
    have c := ns_le (f := S) hp
    omega
theorem iS_1 {a : Nat → Int32} (h : iS a) : ∃ c : Nat, c ≤ 50 ∧ a 1 = nI c := bW_nat (m := 50) rfl (by decide) (h 1 (by decide))
theorem ap_nov (h : IV z n K) (hK : K ≤ 100) (hp : p < 10) (he : e < 12) : ∃ v : Nat, v ≤ 100 ∧ sNov z p e = nI v ∧ (sUS z e = 0 → v = 100) := by
  obtain ⟨U, A, hU, hE, -, -⟩ := ap_uses h hK
  obtain ⟨w, hw, hw2⟩ := iS_1 h.2.1
  obtain ⟨e1, e2, -, e3⟩ := hE e he
  have a1 := (hU (2 * (p / 2)) e (by omega) he)
  have a2 := (hU (2 * (p / 2) + 1) e (by omega) he)
  have eC : sUC z (p / 2) e = nI (U (2 * (p / 2) * 12 + e) + U ((2 * (p / 2) + 1) * 12 + e)) := by
    unfold sUC
    rw [show 2 * (p / 2) * 12 + e + 12 = (2 * (p / 2) + 1) * 12 + e by omega]
    rw [show z 5 (2 * (p / 2) * 12 + e) = nI (U (2 * (p / 2) * 12 + e)) from a1.1, show z 5 ((2 * (p / 2) + 1) * 12 + e) = nI (U ((2 * (p / 2) + 1) * 12 + e)) from a2.1, nI_add]
  obtain ⟨t, ht⟩ : ∃ t, t = ns (fun p => U (p * 12 + e)) 10 + (U (2 * (p / 2) * 12 + e) + U ((2 * (p / 2) + 1) * 12 + e)) := ⟨_, rfl⟩
  have hb : w * t ≤ 50 * 300 := Nat.mul_le_mul hw (by omega)
  refine ⟨100 - w * t, by omega, ?_, fun q => ?_⟩
  · unfold sNov
    rw [hw2, e1, eC, nI_add, ← ht, pk_mul]
    exact nI_max0 (a := 100) (by decide) (by omega)
  · rw [e1, nI_z (by omega)] at q
    have b1 : U (2 * (p / 2) * 12 + e) = 0 := ns_0 (f := fun p => U (p * 12 + e)) q (show 2 * (p / 2) < 10 by omega)
    have b2 : U ((2 * (p / 2) + 1) * 12 + e) = 0 := ns_0 (f := fun p => U (p * 12 + e)) q (show 2 * (p / 2) + 1 < 10 by omega)
    have t0 : t = 0 := by omega
    rw [t0]; rfl
/-- a pupil and an excuse -/
theorem ap_q (h : IV z n K) (hK : K ≤ 100) (hp : p < 10) (he : e < 12) : ¬ sNov z p e < 0 ∧ ¬ 100 < sNov z p e ∧ (¬ 0 < sUS z e → sNov z p e = 100) ∧ (¬ (sUsers z e >>> (nI p &&& 31)) &&& 1 = 0 → ¬ sUP z p ≤ 0) := by
  obtain ⟨v, hv, e1, e2⟩ := ap_nov h hK hp he
  obtain ⟨U, A, hU, hE, hP, -⟩ := ap_uses h hK
  obtain ⟨g1, g2, -, g3⟩ := hE e he
  refine ⟨by rw [e1]; exact nI_pos (by omega), by rw [e1]; exact nI_nlt (a := 100) hv (by decide), fun q => ?_, fun q r => ?_⟩
  · rw [e1, e2 ?_]; rfl
    rw [g1] at q ⊢
    rw [nI_z (by omega)]
    rcases Nat.eq_zero_or_pos (ns (fun p => U (p * 12 + e)) 10) with w | w
    · exact w
    · exact absurd (nI_lt (a := 0) w (by omega)) q
  · obtain ⟨p1, p2⟩ := hP p hp
    rw [p1, show (0 : Int32) = nI 0 from rfl, nI_leI (by omega) (by decide)] at r
    have u0 : U (p * 12 + e) = 0 := ns_0 (f := fun e => U (p * 12 + e)) (show ns (fun e => U (p * 12 + e)) 12 = 0 by omega) he
    have eS : sUsers z e = nI (mkN (fun p => U (p * 12 + e)) 10) := sSet_mk (g := fun p => U (p * 12 + e)) (fun p hp => by have := (hU p e hp he).2; show U (p * 12 + e) < 2 ^ 30; omega) (Nat.le_refl 10) (fun p hp => (hU p e hp he).1)
    rw [eS, sh_bit p hp _ (mkN_lt _ 10), mkN_bit _ hp, if_neg (show ¬ 0 < U (p * 12 + e) by omega)] at q
    exact q rfl
theorem ap_users (h : IV z n K) (hK : K ≤ 100) (he : e < 12) : ∃ m : Nat, m < 1024 ∧ sUsers z e = nI m ∧ ¬ sUS z e < nI (pcN m) ∧ (sUsers z e = 0 ↔ sUS z e = 0) ∧ ¬ 1024 ≤ sUsers z e := by
  obtain ⟨U, A, hU, hE, hP, -⟩ := ap_uses h hK
  obtain ⟨g1, g2, -, g3⟩ := hE e he
  have eS : sUsers z e = nI (mkN (fun p => U (p * 12 + e)) 10) := sSet_mk (g := fun p => U (p * 12 + e)) (fun p hp => by have := (hU p e hp he).2; show U (p * 12 + e) < 2 ^ 30; omega) (Nat.le_refl 10) (fun p hp => (hU p e hp he).1)
  have hl : mkN (fun p => U (p * 12 + e)) 10 < 1024 := mkN_lt _ 10
  have hp := pcN_le (fun p => U (p * 12 + e))
  refine ⟨_, hl, eS, ?_, ?_, ?_⟩
  · rw [g1]; exact nI_nlt hp (by omega)
  · rw [eS, g1, nI_z (by omega), nI_z (by omega), mkN_0]
  · rw [eS]; exact fun q => absurd ((nI_leI (a := 1024) (by decide) (by omega)).mp q) (by omega)
/-- an excuse -/
theorem ap_e (h : IV z n K) (hK : K ≤ 100) (he : e < n) : ¬ z 2 e < 0 ∧ ¬ 5 ≤ z 2 e ∧ ¬ z 3 e ≤ 0 ∧ ¬ 100 ≤ z 3 e ∧ ¬ z 4 e < sUS z e := by
  obtain ⟨U, A, hU, hE, hP, -⟩ := ap_uses h hK
  have n12 := h.n12
  obtain ⟨g1, g2, g4, g3⟩ := hE e (by omega)
  obtain ⟨⟨k, hk, k2⟩, v, v1, v99, v2⟩ := h.2.2.1 e he
  refine ⟨by rw [k2]; exact nI_pos (by omega), by rw [k2]; exact fun q => absurd ((nI_leI (a := 5) (by decide) (by omega)).mp q) (by omega), by rw [v2]; exact fun q => absurd ((nI_leI (b := 0) (by omega) (by decide)).mp q) (by omega), by rw [v2]; exact fun q => absurd ((nI_leI (a := 100) (by decide) (by omega)).mp q) (by omega), by rw [g1, g4]; exact nI_nlt g2 (by omega)⟩
theorem ap_WO (h : IV z n K) (hK : K ≤ 100) (he : e < 12) : bx_sum (fun p => sNov z p e) 10 = 0 ↔ sWO z e = 1 := by
  have hv : ∀ p : Nat, ∃ v : Nat, p < 10 → v ≤ 100 ∧ sNov z p e = nI v := fun p => by
    by_cases c : p < 10
    · obtain ⟨v, a, b, -⟩ := ap_nov h hK c he
      exact ⟨v, fun _ => ⟨a, b⟩⟩
    · exact ⟨0, fun q => absurd q c⟩
  obtain ⟨V, hV⟩ : ∃ V : Nat → Nat, ∀ p : Nat, p < 10 → V p ≤ 100 ∧ sNov z p e = nI (V p) := ⟨fun p => Classical.choose (hv p), fun p hp => Classical.choose_spec (hv p) hp⟩
  have e1 : bx_sum (fun p => sNov z p e) 10 = nI (ns V 10) := bx_ns (fun p hp => (hV p hp).2)
  have b1 : ns V 10 ≤ ns (fun _ => 100) 10 := ns_mono (fun p hp => (hV p hp).1)
  have b2 : ns (fun _ => 100) 10 = 1000 := rfl
  rw [e1, nI_z (by omega)]
  unfold sWO
  constructor
  · intro q
    rw [if_pos (fun p hp => by rw [(hV p hp).2, ns_0 q hp]; decide)]
  · intro q
    by_cases c : ∀ p : Nat, p < 10 → sNov z p e ≤ 0
    · refine ns_z (fun p hp => ?_)
      have := c p hp
      have b := (hV p hp).1
      rw [(hV p hp).2, show (0 : Int32) = nI 0 from rfl, nI_leI (by omega) (by decide)] at this
      omega
    · rw [if_neg c] at q; exact absurd q (by decide)
theorem ap_wo1 (h : IV z n K) (hK : K ≤ 100) (he : e < 12) (c : bx_sum (fun p => sNov z p e) 10 = 0) : sWOs z e + 1 = sWOs z (e + 1) := by
  show _ = (if sWO z e = 0 then sCnt (fun e => sWO z e) e else sCnt (fun e => sWO z e) e + 1)
  rw [if_neg (by rw [(ap_WO h hK he).mp c]; decide)]; rfl
theorem ap_wo0 (h : IV z n K) (hK : K ≤ 100) (he : e < 12) (c : ¬ bx_sum (fun p => sNov z p e) 10 = 0) : sWOs z e + 0 = sWOs z (e + 1) := by
  show _ = (if sWO z e = 0 then sCnt (fun e => sWO z e) e else sCnt (fun e => sWO z e) e + 1)
  rw [if_pos ((sWO_01 z e).resolve_right (fun q => c ((ap_WO h hK he).mpr q))), Int32.add_zero]; rfl
theorem ap_gr (z : Nat → Nat → Int32) : bx_sum (fun p => if p % 2 = 0 then z 12 (p / 2) else 0) 10 = bx_sum (z 12) 5 := by
  show 0 + z 12 0 + 0 + z 12 1 + 0 + z 12 2 + 0 + z 12 3 + 0 + z 12 4 + 0 = 0 + z 12 0 + z 12 1 + z 12 2 + z 12 3 + z 12 4
  simp only [Int32.add_zero]
theorem ap_ref (h : IV z n K) : bx_sum (z 10) 10 = z 13 1 + z 13 2 + z 13 3 + z 13 4 := by
  obtain ⟨h1, h2, h3, h4, h5, ⟨F, D, R, Q, f1, f2, f3, f4, f5, f6⟩, h7, h8, h9⟩ := h
  rw [bx_ns (f := R) (fun j hj => (f1 j hj).2.2), f2 1 (by decide) (by decide), f2 2 (by decide) (by decide), f2 3 (by decide) (by decide), f2 4 (by decide) (by decide), nI_add, nI_add, nI_add, f3]
theorem ap_all (h : IV z n K) : bx_sum (z 4) n = bx_sum (z 9) 10 := by
  have n12 := h.n12
  obtain ⟨h1, h2, h3, ⟨U, A, S, u1, u2, u3, u4, u5, u6, u7, u8, u9⟩, h5, h6, h7, h8, h9⟩ := h
  rw [bx_ns (f := A) (fun j hj => u2 j (by omega)), bx_ns (f := S) u3, ← u8, ns_cut n12 (fun j a b => (u4 j a b).1)]
theorem ap_us (h : IV z n K) (hK : K ≤ 100) : bx_sum (fun e => sUS z e) n = bx_sum (fun p => sUP z p) 10 := by
  have n12 := h.n12
  obtain ⟨U, A, hU, hE, hP, h0⟩ := ap_uses h hK
  rw [bx_ns (f := fun e => ns (fun p => U (p * 12 + e)) 10) (fun j hj => (hE j (by omega)).1), bx_ns (f := fun p => ns (fun e => U (p * 12 + e)) 12) (fun j hj => (hP j hj).1), ns_swap]
  have e1 : ∀ p : Nat, p < 10 → ns (fun i => U (p * 12 + i)) n = ns (fun e => U (p * 12 + e)) 12 := fun p hp => (ns_cut (f := fun i => U (p * 12 + i)) n12 (fun j a b => h0 j a b p hp)).symm
  exact congrArg nI (ns_congr (f := fun p => ns (fun i => U (p * 12 + i)) n) (g := fun p => ns (fun e => U (p * 12 + e)) 12) (n := 10) e1)
end AP
