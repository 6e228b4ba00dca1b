/-! ===== the beginning ===== -/
theorem sI6_at : ∀ k j : Nat, sI6 k j = if j < k then 5 else 0
  | 0, j => by rw [if_neg (Nat.not_lt_zero j)]; rfl
  | k + 1, j => by
    show va_up (sI6 k) k 5 j = _
    by_cases c : j = k
    · subst c; rw [va_up_e, if_pos (by omega)]
    · rw [va_up_ne _ _ c, sI6_at k j]
      by_cases d : j < k
      · rw [if_pos d, if_pos (by omega)]
      · rw [if_neg d, if_neg (by omega)]
theorem sI11_at : ∀ k j : Nat, sI11 k j = if j < k then -6 else 0
  | 0, j => by rw [if_neg (Nat.not_lt_zero j)]; rfl
  | k + 1, j => by
    show va_up (sI11 k) k (-6) j = _
    by_cases c : j = k
    · subst c; rw [va_up_e, if_pos (by omega)]
    · rw [va_up_ne _ _ c, sI11_at k j]
      by_cases d : j < k
      · rw [if_pos d, if_pos (by omega)]
      · rw [if_neg d, if_neg (by omega)]
theorem zM0_at (j : Nat) : zM0 0 j = if j = 4 then 4 else if j = 3 then 5 else if j = 2 then 3 else if j = 1 then 25 else if j = 0 then 40 else 0 := by
  simp [zM0, zu, va_up]
theorem zM_at : ∀ k j : Nat, zM k 0 j = if 54 ≤ j ∧ j < 54 + 6 * k ∧ (j - 54) % 6 = 0 then 5 else if 54 ≤ j ∧ j < 54 + 6 * k ∧ (j - 54) % 6 = 4 then -6 else zM0 0 j
  | 0, j => by rw [if_neg (by omega), if_neg (by omega)]; rfl
  | k + 1, j => by
    show zu (zu (zM k) 0 (54 + 6 * k + 0) 5) 0 (54 + 6 * k + 4) (-6) 0 j = _
    by_cases c : j = 54 + 6 * k + 4
    · subst c; rw [zu_ee, if_neg (by omega), if_pos (by omega)]
    · rw [zu_en c]
      by_cases d : j = 54 + 6 * k + 0
      · subst d; rw [zu_ee, if_pos (by omega)]
      · rw [zu_en d, zM_at k j]
        by_cases e : 54 ≤ j ∧ j < 54 + 6 * k ∧ (j - 54) % 6 = 0
        · rw [if_pos e, if_pos (by omega)]
        · rw [if_neg e, if_neg (show ¬ (54 ≤ j ∧ j < 54 + 6 * (k + 1) ∧ (j - 54) % 6 = 0) by omega)]
          by_cases f : 54 ≤ j ∧ j < 54 + 6 * k ∧ (j - 54) % 6 = 4
          · rw [if_pos f, if_pos (by omega)]
          · rw [if_neg f, if_neg (by omega)]
theorem zM_lo {j : Nat} (h : j < 5) : zM 10 0 j = pv_t0 j := by
  rcases (show j = 0 ∨ j = 1 ∨ j = 2 ∨ j = 3 ∨ j = 4 by omega) with rfl | rfl | rfl | rfl | rfl <;> (rw [zM_at, if_neg (by omega), if_neg (by omega), zM0_at]; rfl)
theorem zM_0 {j : Nat} (h : 5 ≤ j) (h2 : j < 54 ∨ 114 ≤ j ∨ (54 ≤ j ∧ ¬ (j - 54) % 6 = 0 ∧ ¬ (j - 54) % 6 = 4)) : zM 10 0 j = 0 := by
  rw [zM_at, if_neg (by omega), if_neg (by omega), zM0_at, if_neg (by omega), if_neg (by omega), if_neg (by omega), if_neg (by omega), if_neg (by omega)]
theorem zM_5 {p : Nat} (h : p < 10) : zM 10 0 (54 + 6 * p) = 5 := by rw [zM_at, if_pos (by omega)]
theorem zM_m6 {p : Nat} (h : p < 10) : zM 10 0 (54 + 6 * p + 4) = -6 := by rw [zM_at, if_neg (by omega), if_pos (by omega)]
theorem mS_0 : mS (zS 10 10) 0 (zM 10 0) := by
  refine ⟨fun k i hv => ?_, ⟨rfl, by decide, fun p hp => ⟨5, by decide, ?_⟩, fun m hm => ⟨0, by decide, rfl⟩, fun j hj => ⟨0, by decide, rfl⟩, fun e he => ⟨0, by decide, rfl⟩, ⟨⟨25, by decide, rfl⟩, ⟨3, by decide, rfl⟩, ⟨4, by decide, rfl⟩⟩, fun p e _ _ _ => rfl, fun e _ _ => rfl⟩, ?_, ?_⟩
  · have hk := mv_lt hv
    rcases (show k = 0 ∨ k = 1 ∨ k = 2 ∨ k = 3 ∨ k = 4 ∨ k = 5 ∨ k = 6 ∨ k = 7 ∨ k = 8 ∨ k = 9 ∨ k = 10 ∨ k = 11 ∨ k = 12 ∨ k = 13 ∨ k = 14 by omega) with rfl | rfl | rfl | rfl | rfl | rfl | rfl | rfl | rfl | rfl | rfl | rfl | rfl | rfl | rfl
    · have hv : i < 5 := hv
      show zM 10 0 i = va_cpy pv_t0 (fun _ => 0) 0 0 5 i
      rw [va_cpy0 hv]; exact zM_lo hv
    · have hv : i = 0 := hv
      subst hv; exact zM_0 (j := 5) (by omega) (by omega)
    · have hv : i < 12 := hv; exact zM_0 (j := 18 + 3 * i) (by omega) (by omega)
    · have hv : i < 12 := hv; exact zM_0 (j := 18 + 3 * i + 1) (by omega) (by omega)
    · have hv : i < 12 := hv; exact zM_0 (j := 18 + 3 * i + 2) (by omega) (by omega)
    · have hv : i < 120 := hv; exact zM_0 (j := 114 + 10 * (i % 12) + i / 12) (by omega) (by omega)
    · have hv : i < 10 := hv
      show zM 10 0 (54 + 6 * i) = sI6 10 i
      rw [zM_5 hv, sI6_at, if_pos hv]
    · have hv : i < 10 := hv; exact zM_0 (j := 54 + 6 * i + 1) (by omega) (by omega)
    · have hv : i < 10 := hv; exact zM_0 (j := 54 + 6 * i + 5) (by omega) (by omega)
    · have hv : i < 10 := hv; exact zM_0 (j := 54 + 6 * i + 2) (by omega) (by omega)
    · have hv : i < 10 := hv; exact zM_0 (j := 54 + 6 * i + 3) (by omega) (by omega)
    · have hv : i < 10 := hv
      show zM 10 0 (54 + 6 * i + 4) = sI11 10 i
      rw [zM_m6 hv, sI11_at, if_pos hv]
    · have hv : i < 5 := hv; exact zM_0 (j := 13 + i) (by omega) (by omega)
    · have hv : 1 ≤ i ∧ i ≤ 4 := hv; exact zM_0 (j := 6 + i) (by omega) (by omega)
    · have hv : i = 0 := hv
      subst hv; exact zM_0 (j := 11) (by omega) (by omega)
  · show sI6 10 p = nI 5
    rw [sI6_at, if_pos hp]; rfl
  · rw [zM_0 (j := 6) (by omega) (by omega)]; rfl
  · rw [zM_0 (j := 12) (by omega) (by omega)]
    have e : ∀ n : Nat, bx_sum (zS 10 10 5) n = 0 := fun n => by
      induction n with
      | zero => rfl
      | succ n ih => show bx_sum (zS 10 10 5) n + 0 = 0; rw [ih]; rfl
    exact (e 120).symm
def Z00 : Nat → Nat → Nat → Int32 := fun i => if i < 9 then zS 10 10 else if i = 10 then (fun k _ => if k = 4 then -6 else 0) else if i = 11 then zM 10 else fun _ _ => 0
theorem zM_o : ∀ (k : Nat) {l : Nat}, l ≠ 0 → ∀ j : Nat, zM k l j = 0
  | 0, l, h, j => by
    show zu (zu (zu (zu (zu (fun _ _ => 0) 0 0 40) 0 1 25) 0 2 3) 0 3 5) 0 4 4 l j = 0
    rw [zu_o h, zu_o h, zu_o h, zu_o h, zu_o h]
  | k + 1, l, h, j => by
    show zu (zu (zM k) 0 (54 + 6 * k + 0) 5) 0 (54 + 6 * k + 4) (-6) l j = 0
    rw [zu_o h, zu_o h]; exact zM_o k h j
theorem Z00_S {i : Nat} (h : i < 9) : Z00 i = zS 10 10 := if_pos h
theorem Z00_11 : Z00 11 = zM 10 := by
  unfold Z00
  rw [if_neg (by decide), if_neg (by decide), if_pos rfl]
theorem Z00_0 {i : Nat} (h : i = 9 ∨ i = 12) : Z00 i = fun _ _ => 0 := by
  unfold Z00
  rw [if_neg (by omega), if_neg (by omega), if_neg (by omega)]
theorem J_00 : JI Z00 0 0 0 0 := by
  have z0 := Z00_S (i := 0) (by decide)
  have z9 := Z00_0 (i := 9) (by decide)
  have z12 := Z00_0 (i := 12) (by decide)
  refine ⟨by rw [z0, Z00_11]; exact mS_0, ⟨by decide, by decide, by rw [z12]; rfl, by rw [z12]; rfl, by rw [Z00_11]; exact zM_o 10 (l := 2) (by decide) 0⟩, fun i hi => absurd hi (Nat.not_lt_zero i), fun j hj => ⟨by rw [Z00_11, z12]; exact zM_o 10 (l := 4) (by decide) j, fun q => absurd (by rw [z12]) q⟩, by rw [z9]; rfl, by rw [Z00_11]; exact zM_o 10 (l := 6) (by decide) 0, by decide, fun j hj => absurd hj (Nat.not_lt_zero j)⟩
/-- a row of references tells only its length -/
theorem ofFn_congr {n : Nat} {f g : Nat → Value} (h : ∀ j : Nat, j < n → f j = g j) (cA : ClassId) : arrV cA n f = arrV cA n g := by
  unfold arrV
  congr 1
  congr 1
  funext j
  exact h j.val j.isLt
section NORM
variable {κ : pv_Kt} {p : Program} {l : Launch} {e : Env} {R : Room} {s : State} {m : MethodId} {args : Array Value} {below : List Frame} {meth : Method} {c : Code} {Q : State → Prop} {A : Nat → Prop} {nL : Nat} {cells slots : Nat} {L : List Nat} {f : Nat → va_E} {pc : Nat} {vs : List (Nat × Value)} {st : List Value}
theorem pg_norm {a n : Nat} {cA : ClassId} {r r2 : Nat → Option Nat} (hf : f a = .inl (cA, n, .inr (.inr (.inr (.inr r))))) (hr : ∀ j : Nat, j < n → r j = r2 j) (kk : pv_G κ p l e R s m args below meth c Q A nL cells slots L (va_up f a (.inl (cA, n, .inr (.inr (.inr (.inr r2)))))) pc vs st) : pv_G κ p l e R s m args below meth c Q A nL cells slots L f pc vs st := fun H locs ls hP hD hS h => by
  have hc : vp_cell cA (n, .inr (.inr (.inr (.inr r)))) = vp_cell cA (n, .inr (.inr (.inr (.inr r2)))) := by
    rw [vp_cell_q, vp_cell_q]
    exact ofFn_congr (fun j hj => by rw [hr j hj]) cA
  refine kk H locs ls (fun k q hk => ?_) ⟨fun i j p q hp hq hpq => ?_, fun k q hk => ?_⟩ hS h
  · simp only [va_pl, List.getElem?_map, Option.map_eq_some_iff] at hk
    obtain ⟨b, hb, rfl⟩ := hk
    have h1 := hP k (b, f b) (by simp only [va_pl, List.getElem?_map, hb]; rfl)
    by_cases z : b = a
    · subst z
      rw [hf] at h1
      rw [va_up_e]
      show H[b]? = some (vp_cell cA (n, .inr (.inr (.inr (.inr r2)))))
      rw [← hc]; exact h1
    · rw [va_up_ne _ _ z]; exact h1
  · simp only [va_pl, List.getElem?_map, Option.map_eq_some_iff] at hp hq
    obtain ⟨b, hb, rfl⟩ := hp
    obtain ⟨d, hd, rfl⟩ := hq
    exact hD.1 i j (b, f b) (d, f d) (by simp only [va_pl, List.getElem?_map, hb]; rfl) (by simp only [va_pl, List.getElem?_map, hd]; rfl) hpq
  · simp only [va_pl, List.getElem?_map, Option.map_eq_some_iff] at hk
    obtain ⟨b, hb, rfl⟩ := hk
    exact hD.2 k (b, f b) (by simp only [va_pl, List.getElem?_map, hb]; rfl)
end NORM
/-- the two objects made: the whole table -/
def xSt (X Y : Nat → Nat) : Nat → Nat → Nat := fun i k => if i = 11 then Y k else X (16 * i + k)
theorem pv_n_SX {i k : Nat} (h : k < pv_n i) (hi : i ≠ 11) : SX (16 * i + k) ∧ i < 13 ∧ k < 16 ∧ (i < 9 → k < 14) ∧ (i = 9 → k < 2) ∧ (i = 10 → k = 0) ∧ (i = 12 → k < 5) := by
  unfold pv_n at h
  by_cases c1 : i < 9
  · rw [if_pos c1] at h; exact ⟨Or.inl (by omega), by omega, by omega, fun _ => h, fun _ => by omega, fun _ => by omega, fun _ => by omega⟩
  · rw [if_neg c1] at h
    by_cases c2 : i = 9
    · rw [if_pos c2] at h; exact ⟨by show _ ∨ _ ∨ _ ∨ _ ∨ _; omega, by omega, by omega, fun _ => by omega, fun _ => h, fun _ => by omega, fun _ => by omega⟩
    · rw [if_neg c2] at h
      by_cases c3 : i = 10
      · rw [if_pos c3] at h; exact ⟨by show _ ∨ _ ∨ _ ∨ _ ∨ _; omega, by omega, by omega, fun _ => by omega, fun _ => by omega, fun _ => by omega, fun _ => by omega⟩
      · rw [if_neg c3, if_neg hi] at h
        by_cases c4 : i = 12
        · rw [if_pos c4] at h; exact ⟨by show _ ∨ _ ∨ _ ∨ _ ∨ _; omega, by omega, by omega, fun _ => by omega, fun _ => by omega, fun _ => by omega, fun _ => h⟩
        · rw [if_neg c4] at h; exact absurd h (Nat.not_lt_zero k)
theorem pv_eg11 {κ : pv_Kt} {x : Nat → Nat → Nat} {z : Nat → Nat → Int32} (k : Nat) : pv_eg κ x z 11 k = pM_E κ (x 11) z k := rfl
theorem pv_start {κ : pv_Kt} {X Y : Nat → Nat} {q1 q2 : Nat} {f1 : Nat → va_E} {L2 : List Nat} {g2 : Nat → va_E} {e2 : va_E} {L3 : List Nat} {g3 : Nat → va_E} (h1 : p1 194 X [q1] f1 q1 L2 g2 SX (EX κ X)) (hq2 : q2 ∉ L2) (h2 : p1 2 Y (L2 ++ [q2]) (va_up g2 q2 e2) q2 L3 g3 (fun c => c < 6) (pM_E κ Y (zM 10))) : g3 (X 193) = .inl (κ.2.1 3, 6, .inr (.inr (.inr (.inr (rowH 6 X))))) ∧ g3 (X 195) = .inl (κ.2.1 3, 2, .inr (.inr (.inr (.inr (rowX X))))) ∧ X 193 ≠ X 195 ∧
    pv_ok κ (xSt X Y) L3 (va_up (va_up g3 (X 193) (.inl (κ.2.1 3, 6, .inr (.inr (.inr (.inr (fun j => some (xSt X Y (1 + j) 1)))))))) (X 195) (.inl (κ.2.1 3, 2, .inr (.inr (.inr (.inr (fun j => some (xSt X Y (7 + j) 1)))))))) Z00 := by
  have hX : ∀ c, SX c → X c ∈ L2 ∧ g2 (X c) = EX κ X c := fun c hc => p1_at h1 hc
  have hXq : ∀ c, SX c → X c ≠ q2 := fun c hc z => hq2 (z ▸ (hX c hc).1)
  have hX3 : ∀ c, SX c → X c ∈ L3 ∧ g3 (X c) = EX κ X c := fun c hc => by
    have a := h2.1 (X c) (List.mem_append_left _ (hX c hc).1)
    exact ⟨a.1, by rw [a.2 (hXq c hc), va_up_ne _ _ (hXq c hc)]; exact (hX c hc).2⟩
  have hY3 : ∀ k, k < 6 → Y k ∈ L3 ∧ g3 (Y k) = pM_E κ Y (zM 10) k := fun k hk => p1_at h2 hk
  have hXY : ∀ c k, SX c → k < 6 → X c ≠ Y k := fun c k hc hk z => by
    by_cases k2 : k = 2
    · rw [k2, h2.2.2.2.2.2.1] at z; exact hXq c hc z
    · exact h2.2.2.2.1 k hk k2 (z ▸ List.mem_append_left _ (hX c hc).1)
  have hXX : ∀ c d, SX c → SX d → X c = X d → c = d := h1.2.2.1
  have s193 : SX 193 := by show _ ∨ _ ∨ _ ∨ _ ∨ _; omega
  have s195 : SX 195 := by show _ ∨ _ ∨ _ ∨ _ ∨ _; omega
  refine ⟨(hX3 193 s193).2, (hX3 195 s195).2, fun z => absurd (hXX 193 195 s193 s195 z) (by decide), fun i k hk => ?_, fun i k j l hk hl h => ?_, fun i k hk => ?_⟩
  · unfold xSt
    by_cases c : i = 11
    · rw [if_pos c]; subst c; exact (hY3 k hk).1
    · rw [if_neg c]; exact (hX3 _ (pv_n_SX hk c).1).1
  · unfold xSt at h
    by_cases c : i = 11
    · by_cases d : j = 11
      · rw [if_pos c, if_pos d] at h; subst c; subst d
        exact ⟨rfl, h2.2.2.1 k l hk hl h⟩
      · rw [if_pos c, if_neg d] at h; subst c
        exact absurd h.symm (hXY _ k (pv_n_SX hl d).1 hk)
    · by_cases d : j = 11
      · rw [if_neg c, if_pos d] at h; subst d
        exact absurd h (hXY _ l (pv_n_SX hk c).1 hl)
      · rw [if_neg c, if_neg d] at h
        obtain ⟨a1, a2, a3, -⟩ := pv_n_SX hk c
        obtain ⟨b1, b2, b3, -⟩ := pv_n_SX hl d
        have := hXX _ _ a1 b1 h
        omega
  · by_cases c : i = 11
    · subst c
      have hk6 : k < 6 := hk
      show va_up (va_up g3 (X 193) _) (X 195) _ (Y k) = pv_eg κ (xSt X Y) (Z00 11) 11 k
      rw [va_up_ne _ _ (fun z => hXY 195 k s195 hk6 z.symm), va_up_ne _ _ (fun z => hXY 193 k s193 hk6 z.symm), (hY3 k hk6).2, Z00_11, pv_eg11]
      rfl
    · obtain ⟨a1, a2, a3, a4, a5, a6, a7⟩ := pv_n_SX hk c
      have ex : xSt X Y i k = X (16 * i + k) := by unfold xSt; rw [if_neg c]
      rw [ex]
      by_cases c193 : 16 * i + k = 193
      · have hi : i = 12 := by omega
        have hk1 : k = 1 := by omega
        subst hi; subst hk1
        show va_up (va_up g3 (X 193) _) (X 195) _ (X 193) = _
        rw [va_up_ne _ _ (fun z => absurd (hXX 193 195 s193 s195 z) (by decide)), va_up_e]
        rfl
      · by_cases c195 : 16 * i + k = 195
        · have hi : i = 12 := by omega
          have hk3 : k = 3 := by omega
          subst hi; subst hk3
          show va_up (va_up g3 (X 193) _) (X 195) _ (X 195) = _
          rw [va_up_e]
          rfl
        · rw [va_up_ne _ _ (fun z => c195 (hXX _ _ a1 s195 z)), va_up_ne _ _ (fun z => c193 (hXX _ _ a1 s193 z)), (hX3 _ a1).2]
          by_cases i9 : i < 9
          · have hk14 := a4 i9
            have e1 : EX κ X (16 * i + k) = pS_E κ (fun m => X (16 * ((16 * i + k) / 16) + m)) (zS 10 10) ((16 * i + k) % 16) := by unfold EX; rw [if_pos (by omega)]
            rw [e1, show (16 * i + k) / 16 = i by omega, show (16 * i + k) % 16 = k by omega]
            have e2 : pv_eg κ (xSt X Y) (Z00 i) i k = pS_E κ (xSt X Y i) (zS 10 10) k := by
              rw [Z00_S i9]
              unfold pv_eg pS_E
              rw [if_pos i9]
            rw [e2]
            exact pS_E_congr (fun m hm => by unfold xSt; rw [if_neg c]) k
          · rcases (show i = 9 ∨ i = 10 ∨ i = 12 by omega) with rfl | rfl | rfl
            · have := a5 rfl
              rw [Z00_0 (Or.inl rfl)]
              rcases (show k = 0 ∨ k = 1 by omega) with rfl | rfl <;> rfl
            · have := a6 rfl
              subst this; rfl
            · have := a7 rfl
              rw [Z00_0 (Or.inr rfl)]
              rcases (show k = 0 ∨ k = 2 ∨ k = 4 by omega) with rfl | rfl | rfl <;> rfl
