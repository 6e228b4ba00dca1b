/-! ===== p25: IV is kept by each change ===== -/
theorem sT1_at (z : Nat → Nat → Int32) : ∀ k l j : Nat, sT1 z k l j = if l = 5 ∧ j < k then 0 else z l j
  | 0, l, j => by rw [if_neg (by omega)]; rfl
  | k + 1, l, j => by
    show zu (sT1 z k) 5 k 0 l j = _
    by_cases c : l = 5
    · subst c
      by_cases d : j = k
      · subst d; rw [zu_ee, if_pos ⟨rfl, by omega⟩]
      · rw [zu_en d, sT1_at z k 5 j]
        by_cases e : j < k
        · rw [if_pos ⟨rfl, e⟩, if_pos ⟨rfl, by omega⟩]
        · rw [if_neg (fun q => e q.2), if_neg (fun q => by omega)]
    · rw [zu_o c, sT1_at z k l j, if_neg (fun q => c q.1), if_neg (fun q => c q.1)]
theorem sT2_at (z : Nat → Nat → Int32) : ∀ k l j : Nat, sT2 z k l j = if l = 11 ∧ j < k then -6 else if l = 6 ∧ j < k then sMin9 (z 6 j + 2) else z l j
  | 0, l, j => by rw [if_neg (by omega), if_neg (by omega)]; rfl
  | k + 1, l, j => by
    show zu (zu (sT2 z k) 11 k (-6)) 6 k (sMin9 (sT2 z k 6 k + 2)) l j = _
    by_cases c : l = 6
    · subst c
      rw [if_neg (by omega)]
      by_cases d : j = k
      · subst d; rw [zu_ee, sT2_at z j 6 j, if_neg (by omega), if_neg (by omega), if_pos ⟨rfl, by omega⟩]
      · rw [zu_en d, zu_o (by decide), sT2_at z k 6 j, if_neg (by omega)]
        by_cases e : j < k
        · rw [if_pos ⟨rfl, e⟩, if_pos ⟨rfl, by omega⟩]
        · rw [if_neg (fun q => e q.2), if_neg (fun q => by omega)]
    · rw [zu_o c]
      by_cases c2 : l = 11
      · subst c2
        by_cases d : j = k
        · subst d; rw [zu_ee, if_pos ⟨rfl, by omega⟩]
        · rw [zu_en d, sT2_at z k 11 j]
          by_cases e : j < k
          · rw [if_pos ⟨rfl, e⟩, if_pos ⟨rfl, by omega⟩]
          · rw [if_neg (fun q => e q.2), if_neg (fun q => c q.1), if_neg (fun q => by omega), if_neg (fun q => c q.1)]
      · rw [zu_o c2, sT2_at z k l j, if_neg (fun q => c2 q.1), if_neg (fun q => c q.1), if_neg (fun q => c2 q.1), if_neg (fun q => c q.1)]
theorem sT3_at (z : Nat → Nat → Int32) : ∀ k l j : Nat, sT3 z k l j = if l = 12 ∧ j < k then z 12 j / 2 else z l j
  | 0, l, j => by rw [if_neg (by omega)]; rfl
  | k + 1, l, j => by
    show zu (sT3 z k) 12 k (sT3 z k 12 k / 2) l j = _
    by_cases c : l = 12
    · subst c
      by_cases d : j = k
      · subst d; rw [zu_ee, sT3_at z j 12 j, if_neg (by omega), if_pos ⟨rfl, by omega⟩]
      · rw [zu_en d, sT3_at z k 12 j]
        by_cases e : j < k
        · rw [if_pos ⟨rfl, e⟩, if_pos ⟨rfl, by omega⟩]
        · rw [if_neg (fun q => e q.2), if_neg (fun q => by omega)]
    · rw [zu_o c, sT3_at z k l j, if_neg (fun q => c q.1), if_neg (fun q => c q.1)]
theorem sTerm_at (z : Nat → Nat → Int32) (l j : Nat) : sTerm0 z l j = if l = 12 ∧ j < 5 then z 12 j / 2 else if l = 11 ∧ j < 10 then -6 else if l = 6 ∧ j < 10 then sMin9 (z 6 j + 2) else if l = 5 ∧ j < 120 then 0 else z l j := by
  unfold sTerm0
  rw [sT3_at, sT2_at, sT2_at, sT1_at, sT1_at, sT1_at]
  by_cases c : l = 12
  · subst c
    simp
  · by_cases c6 : l = 6
    · subst c6; simp
    · simp [c, c6]
theorem nI_min9 {c : Nat} (hc : c < 2 ^ 30) : sMin9 (nI c) = nI (min 9 c) := by
  unfold sMin9
  by_cases q : c < 9
  · rw [if_pos (show nI c < 9 from nI_lt q (by decide)), Nat.min_eq_right (by omega)]
  · rw [if_neg (show ¬ nI c < 9 from nI_nlt (b := 9) (by omega) (by omega)), Nat.min_eq_left (by omega)]; rfl
theorem nI_max0 {a b : Nat} (ha : a < 2 ^ 30) (hb : b < 2 ^ 30) : sMax0 (nI a - nI b) = nI (a - b) := by
  unfold sMax0
  have e : (nI a - nI b).toInt = (a : Int) - b := pk_sub_toInt ha hb
  by_cases q : b < a
  · rw [if_pos (by rw [Int32.lt_iff_toInt_lt, e, show (0 : Int32).toInt = 0 from rfl]; omega), pk_sub (by omega)]
  · rw [if_neg (by rw [Int32.lt_iff_toInt_lt, e, show (0 : Int32).toInt = 0 from rfl]; omega), Nat.sub_eq_zero_of_le (by omega)]; rfl
section OPS
variable {z : Nat → Nat → Int32} {n K : Nat}
theorem IV_set (h : IV z n K) {j : Nat} {v : Int32} (hv : ¬ bW v (pv_t1 j) (pv_t2 j) = 0) : IV (zu z 0 j v) n K := by
  obtain ⟨h1, h2, h3, h4, h5, h6, h7, h8, h9⟩ := h
  refine ⟨h1, fun i hi => ?_, h3, h4, h5, h6, h7, h8, h9⟩
  rw [zu_e]
  by_cases e : i = j
  · subst e; rw [va_up_e]; exact hv
  · rw [va_up_ne _ _ e]; exact h2 i hi
theorem IV_add (h : IV z n K) (hn : n < 12) {k v : Nat} (hk : k < 5) (hv1 : 1 ≤ v) (hv : v ≤ 99) : IV (sAdd z n (nI k) (nI v)) (n + 1) K := by
  obtain ⟨h1, h2, h3, ⟨U, A, S, u1, u2, u3, u4, u5, u6, u7, u8, u9⟩, h5, h6, h7, h8, h9⟩ := h
  refine ⟨⟨?_, by omega⟩, h2, fun e he => ?_, ⟨U, A, S, u1, u2, u3, fun e h1 h2 => u4 e (by omega) h2, u5, u6, u7, u8, u9⟩, h5, h6, h7, h8, h9⟩
  · unfold sAdd; rw [zu_ee]
  · have e2 : sAdd z n (nI k) (nI v) 2 = va_up (z 2) n (nI k) := by unfold sAdd; rw [zu_o (by decide), zu_o (by decide), zu_e]
    have e3 : sAdd z n (nI k) (nI v) 3 = va_up (z 3) n (nI v) := by unfold sAdd; rw [zu_o (by decide), zu_e, zu_o (by decide)]
    rw [e2, e3]
    by_cases q : e = n
    · subst q; rw [va_up_e, va_up_e]; exact ⟨⟨k, hk, rfl⟩, v, hv1, hv, rfl⟩
    · rw [va_up_ne _ _ q, va_up_ne _ _ q]; exact h3 e (by omega)
theorem IV_worth (h : IV z n K) {e v : Nat} (hv1 : 1 ≤ v) (hv : v ≤ 99) : IV (zu z 3 e (nI v)) n K := by
  obtain ⟨h1, h2, h3, h4, h5, h6, h7, h8, h9⟩ := h
  refine ⟨h1, h2, fun i hi => ?_, h4, h5, h6, h7, h8, h9⟩
  rw [zu_e, zu_o (by decide)]
  by_cases q : i = e
  · subst q; rw [va_up_e]; exact ⟨(h3 i hi).1, v, hv1, hv, rfl⟩
  · rw [va_up_ne _ _ q]; exact h3 i hi
theorem IV_pay (h : IV z n K) (hK : K ≤ 1000) {p c : Nat} (hp : p < 10) (hc : c < 2 ^ 30) (hle : nI c ≤ z 7 p) : IV (sPay z p (nI c)) n K := by
  obtain ⟨h1, h2, h3, h4, h5, ⟨F, D, R, Q, f1, f2, f3, f4, f5, f6⟩, h7, h8, h9⟩ := h
  have b := f5 p hp
  have hF : F p < 2 ^ 30 := by omega
  have hcF : c ≤ F p := by rw [(f1 p hp).1] at hle; exact (nI_leI (by omega) (by omega)).mp hle
  have e7 : sPay z p (nI c) 7 = va_up (z 7) p (z 7 p - nI c) := by unfold sPay; rw [zu_o (by decide), zu_e]
  have e8 : sPay z p (nI c) 8 = va_up (z 8) p (z 8 p + nI c) := by unfold sPay; rw [zu_e, zu_o (by decide)]
  have es : ∀ q : Nat, va_up F p (F p - c) q + va_up D p (D p + c) q = F q + D q := fun q => by
    by_cases e : q = p
    · subst e; rw [va_up_e, va_up_e]; omega
    · rw [va_up_ne _ _ e, va_up_ne _ _ e]
  refine ⟨h1, h2, h3, h4, h5, ⟨va_up F p (F p - c), va_up D p (D p + c), R, Q, fun q hq => ?_, f2, f3, fun q hq hr => by rw [es]; exact f4 q hq hr, fun q hq => by rw [es]; exact f5 q hq, f6⟩, h7, h8, h9⟩
  rw [e7, e8]
  by_cases e : q = p
  · subst e
    rw [va_up_e, va_up_e, va_up_e, va_up_e, (f1 q hq).1, (f1 q hq).2.1, pk_sub hcF, nI_add]
    exact ⟨rfl, rfl, (f1 q hq).2.2⟩
  · rw [va_up_ne _ _ e, va_up_ne _ _ e, va_up_ne _ _ e, va_up_ne _ _ e]; exact f1 q hq
theorem sTermT_at (z : Nat → Nat → Int32) {l : Nat} (h : l ≠ 14) (j : Nat) : sTerm z l j = if l = 12 ∧ j < 5 then z 12 j / 2 else if l = 11 ∧ j < 10 then -6 else if l = 6 ∧ j < 10 then sMin9 (z 6 j + 2) else if l = 5 ∧ j < 120 then 0 else z l j := by
  unfold sTerm
  rw [zu_o h]; exact sTerm_at z l j
theorem sTerm_o (z : Nat → Nat → Int32) {l : Nat} (h : l ≠ 14 ∧ l ≠ 12 ∧ l ≠ 11 ∧ l ≠ 6 ∧ l ≠ 5) (j : Nat) : sTerm z l j = z l j := by
  rw [sTermT_at z h.1, if_neg (fun q => h.2.1 q.1), if_neg (fun q => h.2.2.1 q.1), if_neg (fun q => h.2.2.2.1 q.1), if_neg (fun q => h.2.2.2.2 q.1)]
theorem sTerm_5 (z : Nat → Nat → Int32) {j : Nat} (h : j < 120) : sTerm z 5 j = 0 := by
  rw [sTermT_at z (by decide), if_neg (fun q => absurd q.1 (by decide)), if_neg (fun q => absurd q.1 (by decide)), if_neg (fun q => absurd q.1 (by decide)), if_pos ⟨rfl, h⟩]
theorem sTerm_6 (z : Nat → Nat → Int32) {j : Nat} (h : j < 10) : sTerm z 6 j = sMin9 (z 6 j + 2) := by
  rw [sTermT_at z (by decide), if_neg (fun q => absurd q.1 (by decide)), if_neg (fun q => absurd q.1 (by decide)), if_pos ⟨rfl, h⟩]
theorem sTerm_11 (z : Nat → Nat → Int32) {j : Nat} (h : j < 10) : sTerm z 11 j = -6 := by
  rw [sTermT_at z (by decide), if_neg (fun q => absurd q.1 (by decide)), if_pos ⟨rfl, h⟩]
theorem sTerm_12 (z : Nat → Nat → Int32) {j : Nat} (h : j < 5) : sTerm z 12 j = z 12 j / 2 := by
  rw [sTermT_at z (by decide), if_pos ⟨rfl, h⟩]
theorem sTerm_14 (z : Nat → Nat → Int32) : sTerm z 14 0 = z 14 0 + 1 := by
  unfold sTerm
  rw [zu_ee, sTerm_at, if_neg (fun q => absurd q.1 (by decide)), if_neg (fun q => absurd q.1 (by decide)), if_neg (fun q => absurd q.1 (by decide)), if_neg (fun q => absurd q.1 (by decide))]
theorem IV_term (h : IV z n K) : IV (sTerm z) n (K + 1) := by
  obtain ⟨⟨h1, h1b⟩, h2, h3, ⟨U, A, S, u1, u2, u3, u4, u5, u6, u7, u8, u9⟩, h5, ⟨F, D, R, Q, f1, f2, f3, f4, f5, f6⟩, h7, h8, ⟨v, t1, t2⟩⟩ := h
  have o : ∀ l : Nat, (l ≠ 14 ∧ l ≠ 12 ∧ l ≠ 11 ∧ l ≠ 6 ∧ l ≠ 5) → sTerm z l = z l := fun l hl => funext (fun j => sTerm_o z hl j)
  refine ⟨⟨by rw [o 1 (by decide)]; exact h1, h1b⟩, by rw [o 0 (by decide)]; exact h2, by rw [o 2 (by decide), o 3 (by decide)]; exact h3, ⟨fun _ => 0, A, S, fun j hj => sTerm_5 z hj, by rw [o 4 (by decide)]; exact u2, by rw [o 9 (by decide)]; exact u3, fun e a b => ⟨(u4 e a b).1, fun _ _ => rfl⟩, fun e he => ?_, fun p hp => ?_, fun p hp _ => ns_z (fun _ _ => rfl), u8, by omega⟩, fun p hp => Or.inl (sTerm_11 z hp), ?_, fun p hp => ?_, fun m hm => ?_, ⟨v + 1, by omega, by rw [sTerm_14, t2]; exact nI_1 v⟩⟩
  · rw [ns_z (fun _ _ => rfl)]; omega
  · rw [ns_z (fun _ _ => rfl)]; omega
  · rw [o 7 (by decide), o 8 (by decide), o 10 (by decide), o 13 (by decide)]
    exact ⟨F, D, R, Q, f1, f2, f3, f4, fun p hp => Nat.le_trans (f5 p hp) (by omega), by omega⟩
  · obtain ⟨c, hc, e⟩ := h7 p hp
    rw [sTerm_6 z hp, e]
    exact ⟨min 9 (c + 2), Nat.min_le_left _ _, by rw [← nI_min9 (by omega), ← nI_add]; rfl⟩
  · obtain ⟨c, hc, e⟩ := h8 m hm
    rw [sTerm_12 z hm, e]
    exact ⟨c / 2, by omega, pk_div (d := 2) (by omega) (by decide) (by decide)⟩
/-! an offer -/
theorem sTake_o {wt c : Int32} {k : Nat} (h : k ≠ 6) : sTake z wt c k = z k := by
  unfold sTake
  by_cases q : wt = -6
  · rw [if_pos q]
  · rw [if_neg q, zu_o h]
theorem sTake_6 (h : iC (z 6)) {wt : Int32} {c : Nat} (hc : c < 2 ^ 30) : iC (sTake z wt (nI c) 6) := by
  unfold sTake
  by_cases q : wt = -6
  · rw [if_pos q]; exact h
  · rw [if_neg q, zu_e]
    intro p hp
    by_cases e : p = cl wt
    · subst e
      obtain ⟨v, hv, e2⟩ := h (cl wt) hp
      rw [va_up_e, e2]
      exact ⟨v - c, by omega, nI_max0 (by omega) hc⟩
    · rw [va_up_ne _ _ e]; exact h p hp
theorem sAnger_o {p k : Nat} (h : k ≠ 12) : sAnger z p k = z k := by unfold sAnger; rw [zu_o h]
theorem sAnger_12 (h : iG (z 12)) {p : Nat} (hp : p < 10) : iG (sAnger z p 12) := by
  unfold sAnger
  rw [zu_e]
  intro m hm
  by_cases e : m = p / 2
  · subst e
    obtain ⟨v, hv, e2⟩ := h (p / 2) hm
    rw [va_up_e, e2, nI_1, nI_min9 (by omega)]
    exact ⟨_, Nat.min_le_left _ _, rfl⟩
  · rw [va_up_ne _ _ e]; exact h m hm
theorem sStamp_o {p e : Nat} {wt mn : Int32} {k : Nat} (h6 : k ≠ 6) (h12 : k ≠ 12) : sStamp z p e wt mn k = sStamp0 z p e k := by
  unfold sStamp
  split
  · rw [sTake_o h6]
  · rw [sAnger_o h12, sTake_o h6]
theorem sRefuse_o {p r : Nat} {wt mn : Int32} {k : Nat} (h6 : k ≠ 6) (h12 : k ≠ 12) : sRefuse z p wt mn r k = zu (zu (zu z 7 p (z 7 p + z 0 3 * mn)) 10 p (z 10 p + 1)) 13 r (z 13 r + 1) k := by
  unfold sRefuse
  split
  · rw [sTake_o h6]; unfold sRefuse0; rw [sAnger_o h12]
  · unfold sRefuse0; rw [sAnger_o h12]
theorem sStamp0_o {p e k : Nat} (h : k ≠ 5 ∧ k ≠ 4 ∧ k ≠ 9) : sStamp0 z p e k = z k := by unfold sStamp0; rw [zu_o h.2.2, zu_o h.2.1, zu_o h.1]
theorem sStamp0_5 {p e : Nat} : sStamp0 z p e 5 = va_up (z 5) (p * 12 + e) (z 5 (p * 12 + e) + 1) := by unfold sStamp0; rw [zu_o (by decide), zu_o (by decide), zu_e]
theorem sStamp0_4 {p e : Nat} : sStamp0 z p e 4 = va_up (z 4) e (z 4 e + 1) := by unfold sStamp0; rw [zu_o (by decide), zu_e, zu_o (by decide)]
theorem sStamp0_9 {p e : Nat} : sStamp0 z p e 9 = va_up (z 9) p (z 9 p + 1) := by unfold sStamp0; rw [zu_e, zu_o (by decide), zu_o (by decide)]
theorem sStamp_6 (h : iC (z 6)) {p e : Nat} {wt mn : Int32} : iC (sStamp z p e wt mn 6) := by
  have h0 : iC (sStamp0 z p e 6) := by rw [sStamp0_o (by decide)]; exact h
  unfold sStamp
  split
  · exact sTake_6 (c := 1) h0 (by decide)
  · rw [sAnger_o (by decide)]; exact sTake_6 (c := 1) h0 (by decide)
theorem sStamp_12 (h : iG (z 12)) {p e : Nat} (hp : p < 10) {wt mn : Int32} : iG (sStamp z p e wt mn 12) := by
  have h0 : iG (sTake (sStamp0 z p e) wt 1 12) := by rw [sTake_o (by decide), sStamp0_o (by decide)]; exact h
  unfold sStamp
  split
  · exact h0
  · exact sAnger_12 h0 hp
theorem sRefuse_6 (h : iC (z 6)) {p r : Nat} {wt mn : Int32} : iC (sRefuse z p wt mn r 6) := by
  have h0 : iC (sRefuse0 z p mn r 6) := by unfold sRefuse0; rw [sAnger_o (by decide), zu_o (by decide), zu_o (by decide), zu_o (by decide)]; exact h
  unfold sRefuse
  split
  · exact sTake_6 (c := 2) h0 (by decide)
  · exact h0
theorem sRefuse_12 (h : iG (z 12)) {p r : Nat} (hp : p < 10) {wt mn : Int32} : iG (sRefuse z p wt mn r 12) := by
  have h0 : iG (sRefuse0 z p mn r 12) := by unfold sRefuse0; exact sAnger_12 (by rw [zu_o (by decide), zu_o (by decide), zu_o (by decide)]; exact h) hp
  unfold sRefuse
  split
  · rw [sTake_o (by decide)]; exact h0
  · exact h0
theorem ns_col {U : Nat → Nat} {p e : Nat} (hp : p < 10) (he : e < 12) {d : Nat} (hd : d < 12) : ns (fun q => va_up U (p * 12 + e) (U (p * 12 + e) + 1) (q * 12 + d)) 10 = ns (fun q => U (q * 12 + d)) 10 + (if d = e then 1 else 0) := by
  obtain ⟨V, hV⟩ : ∃ V, V = fun q => va_up U (p * 12 + e) (U (p * 12 + e) + 1) (q * 12 + d) := ⟨_, rfl⟩
  obtain ⟨G, hG⟩ : ∃ G, G = fun q => U (q * 12 + d) := ⟨_, rfl⟩
  rw [← hV, ← hG]
  by_cases q : d = e
  · subst q
    have e1 : ∀ i : Nat, i < 10 → V i = va_up G p (G p + 1) i := fun i hi => by
      rw [hV, hG]
      by_cases r : i = p
      · subst r; rw [va_up_e]; exact va_up_e
      · rw [va_up_ne _ _ r]; exact va_up_ne _ _ (show i * 12 + d ≠ p * 12 + d by omega)
    rw [if_pos rfl, ns_congr (f := V) (g := va_up G p (G p + 1)) (n := 10) e1]
    exact ns_up (f := G) 1 hp
  · have e1 : ∀ i : Nat, i < 10 → V i = G i := fun i hi => by
      rw [hV, hG]
      exact va_up_ne _ _ (show i * 12 + d ≠ p * 12 + e by omega)
    rw [if_neg q, Nat.add_zero]
    exact ns_congr (f := V) (g := G) (n := 10) e1
theorem ns_row {U : Nat → Nat} {p e : Nat} (hp : p < 10) (he : e < 12) {d : Nat} (hd : d < 10) : ns (fun q => va_up U (p * 12 + e) (U (p * 12 + e) + 1) (d * 12 + q)) 12 = ns (fun q => U (d * 12 + q)) 12 + (if d = p then 1 else 0) := by
  obtain ⟨V, hV⟩ : ∃ V, V = fun q => va_up U (p * 12 + e) (U (p * 12 + e) + 1) (d * 12 + q) := ⟨_, rfl⟩
  obtain ⟨G, hG⟩ : ∃ G, G = fun q => U (d * 12 + q) := ⟨_, rfl⟩
  rw [← hV, ← hG]
  by_cases q : d = p
  · subst q
    have e1 : ∀ i : Nat, i < 12 → V i = va_up G e (G e + 1) i := fun i hi => by
      rw [hV, hG]
      by_cases r : i = e
      · subst r; rw [va_up_e]; exact va_up_e
      · rw [va_up_ne _ _ r]; exact va_up_ne _ _ (show d * 12 + i ≠ d * 12 + e by omega)
    rw [if_pos rfl, ns_congr (f := V) (g := va_up G e (G e + 1)) (n := 12) e1]
    exact ns_up (f := G) 1 he
  · have e1 : ∀ i : Nat, i < 12 → V i = G i := fun i hi => by
      rw [hV, hG]
      exact va_up_ne _ _ (show d * 12 + i ≠ p * 12 + e by omega)
    rw [if_neg q, Nat.add_zero]
    exact ns_congr (f := V) (g := G) (n := 12) e1
set_option maxHeartbeats 4000000 in
theorem iU_stamp {u a s lt : Nat → Int32} (h : iU n K u a s lt) {p e : Nat} (hp : p < 10) (he : e < n) (hn : n ≤ 12) {k : Nat} (hk : k < 5) : iU n (K + 1) (va_up u (p * 12 + e) (u (p * 12 + e) + 1)) (va_up a e (a e + 1)) (va_up s p (s p + 1)) (va_up lt p (nI k)) := by
  obtain ⟨U, A, S, u1, u2, u3, u4, u5, u6, u7, u8, u9⟩ := h
  have he12 : e < 12 := by omega
  have cE : ∀ d : Nat, d < 12 → ns (fun q => va_up U (p * 12 + e) (U (p * 12 + e) + 1) (q * 12 + d)) 10 = ns (fun q => U (q * 12 + d)) 10 + (if d = e then 1 else 0) := fun d hd => ns_col hp he12 hd
  have cP : ∀ d : Nat, d < 10 → ns (fun q => va_up U (p * 12 + e) (U (p * 12 + e) + 1) (d * 12 + q)) 12 = ns (fun q => U (d * 12 + q)) 12 + (if d = p then 1 else 0) := fun d hd => ns_row hp he12 hd
  refine ⟨va_up U (p * 12 + e) (U (p * 12 + e) + 1), va_up A e (A e + 1), va_up S p (S p + 1), fun j hj => ?_, fun j hj => ?_, fun j hj => ?_, fun d h1 h2 => ?_, fun d hd => ?_, fun d hd => ?_, fun d hd hm => ?_, ?_, ?_⟩
  · by_cases q : j = p * 12 + e
    · subst q; rw [va_up_e, va_up_e, u1 _ hj]; exact nI_1 _
    · rw [va_up_ne _ _ q, va_up_ne _ _ q]; exact u1 j hj
  · by_cases q : j = e
    · subst q; rw [va_up_e, va_up_e, u2 _ hj]; exact nI_1 _
    · rw [va_up_ne _ _ q, va_up_ne _ _ q]; exact u2 j hj
  · by_cases q : j = p
    · subst q; rw [va_up_e, va_up_e, u3 _ hj]; exact nI_1 _
    · rw [va_up_ne _ _ q, va_up_ne _ _ q]; exact u3 j hj
  · rw [va_up_ne _ _ (by omega)]
    exact ⟨(u4 d h1 h2).1, fun q hq => by rw [va_up_ne _ _ (by omega)]; exact (u4 d h1 h2).2 q hq⟩
  · rw [cE d hd]
    have := u5 d hd
    by_cases q : d = e
    · subst q; rw [va_up_e, if_pos rfl]; omega
    · rw [va_up_ne _ _ q, if_neg q]; omega
  · rw [cP d hd]
    have := u6 d hd
    by_cases q : d = p
    · subst q; rw [va_up_e, if_pos rfl]; omega
    · rw [va_up_ne _ _ q, if_neg q]; omega
  · by_cases q : d = p
    · subst q; rw [va_up_e] at hm
      exact absurd (hm ▸ nI_pos (n := k) (by omega)) (by decide)
    · rw [cP d hd, if_neg q, Nat.add_zero]
      rw [va_up_ne _ _ q] at hm
      exact u7 d hd hm
  · rw [ns_up 1 he12, ns_up 1 hp, u8]
  · rw [ns_up 1 hp]; omega
theorem iU_lt {u a s lt : Nat → Int32} (h : iU n K u a s lt) {p k : Nat} (hk : k < 5) : iU n (K + 1) u a s (va_up lt p (nI k)) := by
  obtain ⟨U, A, S, u1, u2, u3, u4, u5, u6, u7, u8, u9⟩ := h
  refine ⟨U, A, S, u1, u2, u3, u4, u5, u6, fun d hd hm => ?_, u8, by omega⟩
  by_cases q : d = p
  · subst q; rw [va_up_e] at hm
    exact absurd (hm ▸ nI_pos (n := k) (by omega)) (by decide)
  · rw [va_up_ne _ _ q] at hm
    exact u7 d hd hm
theorem iF_refuse {f pd rr q : Nat → Int32} (h : iF K f pd rr q) {p r c : Nat} (hp : p < 10) (hr1 : 1 ≤ r) (hr : r ≤ 4) (hc : c ≤ 5940) : iF (K + 1) (va_up f p (f p + nI c)) pd (va_up rr p (rr p + 1)) (va_up q r (q r + 1)) := by
  obtain ⟨F, D, R, Q, f1, f2, f3, f4, f5, f6⟩ := h
  refine ⟨va_up F p (F p + c), D, va_up R p (R p + 1), va_up Q r (Q r + 1), fun j hj => ?_, fun k h1 h4 => ?_, ?_, fun j hj hR => ?_, fun j hj => ?_, by rw [ns_up 1 hp]; omega⟩
  · by_cases e : j = p
    · subst e; rw [va_up_e, va_up_e, va_up_e, va_up_e, (f1 j hj).1, (f1 j hj).2.2, nI_add]
      exact ⟨rfl, (f1 j hj).2.1, nI_1 _⟩
    · rw [va_up_ne _ _ e, va_up_ne _ _ e, va_up_ne _ _ e, va_up_ne _ _ e]; exact f1 j hj
  · by_cases e : k = r
    · subst e; rw [va_up_e, va_up_e, f2 k h1 h4]; exact nI_1 _
    · rw [va_up_ne _ _ e, va_up_ne _ _ e]; exact f2 k h1 h4
  · rw [ns_up 1 hp, f3]
    rcases (show r = 1 ∨ r = 2 ∨ r = 3 ∨ r = 4 by omega) with rfl | rfl | rfl | rfl <;> simp [va_up] <;> omega
  · by_cases e : j = p
    · subst e; rw [va_up_e] at hR; omega
    · rw [va_up_ne _ _ e] at hR; rw [va_up_ne _ _ e]; exact f4 j hj hR
  · have := f5 j hj
    by_cases e : j = p
    · subst e; rw [va_up_e]; omega
    · rw [va_up_ne _ _ e]; omega
theorem iS_3 {a : Nat → Int32} (h : iS a) : ∃ c : Nat, 1 ≤ c ∧ c ≤ 60 ∧ a 3 = nI c := by
  obtain ⟨d, hd, e, -⟩ := bW_off (c := a 3) (a := 1) (b := 60) rfl rfl (by decide) (by decide) (h 3 (by decide))
  exact ⟨1 + d, by omega, by omega, e⟩
theorem iL_up {lt : Nat → Int32} (h : iL lt) {p k : Nat} (hk : k < 5) : iL (va_up lt p (nI k)) := fun q hq => by
  by_cases e : q = p
  · subst e; rw [va_up_e]; exact Or.inr ⟨k, hk, rfl⟩
  · rw [va_up_ne _ _ e]; exact h q hq
theorem sOffer0_2 {p e : Nat} {wt mn : Int32} (z : Nat → Nat → Int32) {k : Nat} (hk : k = 0 ∨ k = 1 ∨ k = 2 ∨ k = 3 ∨ k = 14 ∨ k = 11 ∨ k = 8) : sOffer0 z p e wt mn k = z k := by
  unfold sOffer0
  split
  · rw [sStamp_o (by omega) (by omega), sStamp0_o (by omega)]
  · rw [sRefuse_o (by omega) (by omega), zu_o (by omega), zu_o (by omega), zu_o (by omega)]
theorem sOffer_o {p e : Nat} {wt mn : Int32} (z : Nat → Nat → Int32) {k : Nat} (hk : k ≠ 11) : sOffer z p e wt mn k = sOffer0 z p e wt mn k := by unfold sOffer; rw [zu_o hk]
theorem sOffer_11 {p e : Nat} {wt mn : Int32} (z : Nat → Nat → Int32) : sOffer z p e wt mn 11 = va_up (z 11) p (z 2 e) := by
  unfold sOffer
  rw [zu_e, sOffer0_2 z (by decide), sOffer0_2 z (by decide)]
theorem IV_offer (h : IV z n K) {p e m : Nat} (hp : p < 10) (he : e < n) (wt : Int32) (hm : m ≤ 99) : IV (sOffer z p e wt (nI m)) n (K + 1) := by
  have hmono := h.mono (Nat.le_succ K)
  obtain ⟨⟨h1, h1b⟩, h2, h3, h4, h5, h6, h7, h8, h9⟩ := h
  obtain ⟨⟨k, hk, hk2⟩, -⟩ := h3 e he
  have s1 : sOffer z p e wt (nI m) 1 = z 1 := by rw [sOffer_o z (by decide), sOffer0_2 z (by decide)]
  have s0 : sOffer z p e wt (nI m) 0 = z 0 := by rw [sOffer_o z (by decide), sOffer0_2 z (by decide)]
  have s2 : sOffer z p e wt (nI m) 2 = z 2 := by rw [sOffer_o z (by decide), sOffer0_2 z (by decide)]
  have s3 : sOffer z p e wt (nI m) 3 = z 3 := by rw [sOffer_o z (by decide), sOffer0_2 z (by decide)]
  have s14 : sOffer z p e wt (nI m) 14 = z 14 := by rw [sOffer_o z (by decide), sOffer0_2 z (by decide)]
  have s11 : sOffer z p e wt (nI m) 11 = va_up (z 11) p (nI k) := by rw [sOffer_11, hk2]
  refine ⟨⟨by rw [s1]; exact h1, h1b⟩, by rw [s0]; exact h2, by rw [s2, s3]; exact h3, ?_, by rw [s11]; exact iL_up h5 hk, ?_, ?_, ?_, by rw [s14]; exact hmono.2.2.2.2.2.2.2.2⟩
  · rw [s11, sOffer_o z (by decide), sOffer_o z (by decide), sOffer_o z (by decide)]
    unfold sOffer0
    split
    · rw [sStamp_o (by decide) (by decide), sStamp_o (by decide) (by decide), sStamp_o (by decide) (by decide), sStamp0_5, sStamp0_4, sStamp0_9]
      exact iU_stamp h4 hp he h1b hk
    · rw [sRefuse_o (by decide) (by decide), sRefuse_o (by decide) (by decide), sRefuse_o (by decide) (by decide), zu_o (by decide), zu_o (by decide), zu_o (by decide), zu_o (by decide), zu_o (by decide), zu_o (by decide), zu_o (by decide), zu_o (by decide), zu_o (by decide)]
      exact iU_lt h4 hk
  · rw [sOffer_o z (by decide), sOffer_o z (by decide), sOffer_o z (by decide), sOffer_o z (by decide)]
    unfold sOffer0
    split
    · rw [sStamp_o (by decide) (by decide), sStamp_o (by decide) (by decide), sStamp_o (by decide) (by decide), sStamp_o (by decide) (by decide), sStamp0_o (by decide), sStamp0_o (by decide), sStamp0_o (by decide), sStamp0_o (by decide)]
      exact hmono.2.2.2.2.2.1
    · rename_i hr
      obtain ⟨r, r1, r4, hrr⟩ := sReason_nat z p e wt (nI m) hr
      obtain ⟨c, c1, c60, hc⟩ := iS_3 h2
      rw [hrr, cl_nI (by omega), sRefuse_o (by decide) (by decide), sRefuse_o (by decide) (by decide), sRefuse_o (by decide) (by decide), sRefuse_o (by decide) (by decide)]
      rw [show zu (zu (zu z 7 p (z 7 p + z 0 3 * nI m)) 10 p (z 10 p + 1)) 13 r (z 13 r + 1) 7 = va_up (z 7) p (z 7 p + nI (c * m)) from by rw [zu_o (by decide), zu_o (by decide), zu_e, hc, pk_mul], show zu (zu (zu z 7 p (z 7 p + z 0 3 * nI m)) 10 p (z 10 p + 1)) 13 r (z 13 r + 1) 8 = z 8 from by rw [zu_o (by decide), zu_o (by decide), zu_o (by decide)], show zu (zu (zu z 7 p (z 7 p + z 0 3 * nI m)) 10 p (z 10 p + 1)) 13 r (z 13 r + 1) 10 = va_up (z 10) p (z 10 p + 1) from by rw [zu_o (by decide), zu_e, zu_o (by decide)], show zu (zu (zu z 7 p (z 7 p + z 0 3 * nI m)) 10 p (z 10 p + 1)) 13 r (z 13 r + 1) 13 = va_up (z 13) r (z 13 r + 1) from by rw [zu_e, zu_o (by decide), zu_o (by decide)]]
      exact iF_refuse h6 hp r1 r4 (Nat.le_trans (Nat.mul_le_mul c60 hm) (by decide))
  · rw [sOffer_o z (by decide)]
    unfold sOffer0
    split
    · exact sStamp_6 h7
    · exact sRefuse_6 h7
  · rw [sOffer_o z (by decide)]
    unfold sOffer0
    split
    · exact sStamp_12 h8 hp
    · exact sRefuse_12 h8 hp
end OPS
