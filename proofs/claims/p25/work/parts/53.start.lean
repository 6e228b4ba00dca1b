/-! ===== the beginning ===== -/
theorem sI6_at : ∀ k j : Nat, sI6 k j = if j < k then 5 else 0
  | 0, j => by rw [if_neg (Nat.not_lt_zero j)]; rfl
  | k + 1, j => by
    show va_up (sI6 k) k 5 j = _
    by_cases c : j = k
    · subst c; rw [va_up_e, if_pos (by omega)]
    · rw [va_up_ne _ _ c, sI6_at k j]
      by_cases d : j < k
      · rw [if_pos d, if_pos (by omega)]
      · rw [if_neg d, if_neg (by omega)]
theorem sI11_at : ∀ k j : Nat, sI11 k j = if j < k then -6 else 0
  | 0, j => by rw [if_neg (Nat.not_lt_zero j)]; rfl
  | k + 1, j => by
    show va_up (sI11 k) k (-6) j = _
    by_cases c : j = k
    · subst c; rw [va_up_e, if_pos (by omega)]
    · rw [va_up_ne _ _ c, sI11_at k j]
      by_cases d : j < k
      · rw [if_pos d, if_pos (by omega)]
      · rw [if_neg d, if_neg (by omega)]
def Z00 : Nat → Nat → Nat → Int32 := fun i => if i < 9 then zS 10 10 else if i = 10 then (fun k _ => if k = 4 then -6 else 0) else fun _ _ => 0
theorem Z00_S {i : Nat} (h : i < 9) : Z00 i = zS 10 10 := if_pos h
theorem Z00_0 {i : Nat} (h : i = 9 ∨ i = 12) : Z00 i = fun _ _ => 0 := by
  unfold Z00
  rw [if_neg (by omega), if_neg (by omega)]
/-- a row of references tells only its length -/
theorem ofFn_congr {n : Nat} {f g : Nat → Value} (h : ∀ j : Nat, j < n → f j = g j) (cA : ClassId) : arrV cA n f = arrV cA n g := by
  unfold arrV
  congr 1
  congr 1
  funext j
  exact h j.val j.isLt
section NORM
variable {κ : pv_Kt} {p : Program} {l : Launch} {e : Env} {R : Room} {s : State} {m : MethodId} {args : Array Value} {below : List Frame} {meth : Method} {c : Code} {Q : State → Prop} {A : Nat → Prop} {nL : Nat} {cells slots : Nat} {L : List Nat} {f : Nat → va_E} {pc : Nat} {vs : List (Nat × Value)} {st : List Value}
theorem pg_norm {a n : Nat} {cA : ClassId} {r r2 : Nat → Option Nat} (hf : f a = .inl (cA, n, .inr (.inr (.inr (.inr r))))) (hr : ∀ j : Nat, j < n → r j = r2 j) (kk : pv_G κ p l e R s m args below meth c Q A nL cells slots L (va_up f a (.inl (cA, n, .inr (.inr (.inr (.inr r2)))))) pc vs st) : pv_G κ p l e R s m args below meth c Q A nL cells slots L f pc vs st := fun H locs ls hP hD hS h => by
  have hc : vp_cell cA (n, .inr (.inr (.inr (.inr r)))) = vp_cell cA (n, .inr (.inr (.inr (.inr r2)))) := by
    rw [vp_cell_q, vp_cell_q]
    exact ofFn_congr (fun j hj => by rw [hr j hj]) cA
  refine kk H locs ls (fun k q hk => ?_) ⟨fun i j p q hp hq hpq => ?_, fun k q hk => ?_⟩ hS h
  · simp only [va_pl, List.getElem?_map, Option.map_eq_some_iff] at hk
    obtain ⟨b, hb, rfl⟩ := hk
    have h1 := hP k (b, f b) (by simp only [va_pl, List.getElem?_map, hb]; rfl)
    by_cases z : b = a
    · subst z
      rw [hf] at h1
      rw [va_up_e]
      show H[b]? = some (vp_cell cA (n, .inr (.inr (.inr (.inr r2)))))
      rw [← hc]; exact h1
    · rw [va_up_ne _ _ z]; exact h1
  · simp only [va_pl, List.getElem?_map, Option.map_eq_some_iff] at hp hq
    obtain ⟨b, hb, rfl⟩ := hp
    obtain ⟨d, hd, rfl⟩ := hq
    exact hD.1 i j (b, f b) (d, f d) (by simp only [va_pl, List.getElem?_map, hb]; rfl) (by simp only [va_pl, List.getElem?_map, hd]; rfl) hpq
  · simp only [va_pl, List.getElem?_map, Option.map_eq_some_iff] at hk
    obtain ⟨b, hb, rfl⟩ := hk
    exact hD.2 k (b, f b) (by simp only [va_pl, List.getElem?_map, hb]; rfl)
end NORM
/-- the object made: the whole table -/
def xSt (X : Nat → Nat) : Nat → Nat → Nat := fun i k => X (16 * i + k)
theorem pv_n_SX {i k : Nat} (h : k < pv_n i) : SX (16 * i + k) ∧ i < 13 ∧ k < 16 ∧ (i < 9 → k < 14) ∧ (i = 9 → k < 2) ∧ (i = 10 → k = 0) ∧ (i = 12 → k < 5) := by
  unfold pv_n at h
  by_cases c1 : i < 9
  · rw [if_pos c1] at h; exact ⟨Or.inl (by omega), by omega, by omega, fun _ => h, fun _ => by omega, fun _ => by omega, fun _ => by omega⟩
  · rw [if_neg c1] at h
    by_cases c2 : i = 9
    · rw [if_pos c2] at h; exact ⟨by show _ ∨ _ ∨ _ ∨ _ ∨ _; omega, by omega, by omega, fun _ => by omega, fun _ => h, fun _ => by omega, fun _ => by omega⟩
    · rw [if_neg c2] at h
      by_cases c3 : i = 10
      · rw [if_pos c3] at h; exact ⟨by show _ ∨ _ ∨ _ ∨ _ ∨ _; omega, by omega, by omega, fun _ => by omega, fun _ => by omega, fun _ => by omega, fun _ => by omega⟩
      · rw [if_neg c3] at h
        by_cases c4 : i = 12
        · rw [if_pos c4] at h; exact ⟨by show _ ∨ _ ∨ _ ∨ _ ∨ _; omega, by omega, by omega, fun _ => by omega, fun _ => by omega, fun _ => by omega, fun _ => h⟩
        · rw [if_neg c4] at h; exact absurd h (Nat.not_lt_zero k)
theorem pv_start {κ : pv_Kt} {X : Nat → Nat} {q1 : Nat} {f1 : Nat → va_E} {L2 : List Nat} {g2 : Nat → va_E} (h1 : p1 194 X [q1] f1 q1 L2 g2 SX (EX κ X)) : g2 (X 193) = .inl (κ.2.1 3, 6, .inr (.inr (.inr (.inr (rowH 6 X))))) ∧ g2 (X 195) = .inl (κ.2.1 3, 2, .inr (.inr (.inr (.inr (rowX X))))) ∧ X 193 ≠ X 195 ∧
    pv_ok κ (xSt X) L2 (va_up (va_up g2 (X 193) (.inl (κ.2.1 3, 6, .inr (.inr (.inr (.inr (fun j => some (xSt X (1 + j) 1)))))))) (X 195) (.inl (κ.2.1 3, 2, .inr (.inr (.inr (.inr (fun j => some (xSt X (7 + j) 1)))))))) Z00 := by
  have hX3 : ∀ c, SX c → X c ∈ L2 ∧ g2 (X c) = EX κ X c := fun c hc => p1_at h1 hc
  have hXX : ∀ c d, SX c → SX d → X c = X d → c = d := h1.2.2.1
  have s193 : SX 193 := by show _ ∨ _ ∨ _ ∨ _ ∨ _; omega
  have s195 : SX 195 := by show _ ∨ _ ∨ _ ∨ _ ∨ _; omega
  refine ⟨(hX3 193 s193).2, (hX3 195 s195).2, fun z => absurd (hXX 193 195 s193 s195 z) (by decide), fun i k hk => ?_, fun i k j l hk hl h => ?_, fun i k hk => ?_⟩
  · exact (hX3 _ (pv_n_SX hk).1).1
  · obtain ⟨a1, a2, a3, -⟩ := pv_n_SX hk
    obtain ⟨b1, b2, b3, -⟩ := pv_n_SX hl
    have := hXX _ _ a1 b1 h
    omega
  · obtain ⟨a1, a2, a3, a4, a5, a6, a7⟩ := pv_n_SX hk
    have ex : xSt X i k = X (16 * i + k) := rfl
    rw [ex]
    by_cases c193 : 16 * i + k = 193
    · have hi : i = 12 := by omega
      have hk1 : k = 1 := by omega
      subst hi; subst hk1
      show va_up (va_up g2 (X 193) _) (X 195) _ (X 193) = _
      rw [va_up_ne _ _ (fun z => absurd (hXX 193 195 s193 s195 z) (by decide)), va_up_e]
      rfl
    · by_cases c195 : 16 * i + k = 195
      · have hi : i = 12 := by omega
        have hk3 : k = 3 := by omega
        subst hi; subst hk3
        show va_up (va_up g2 (X 193) _) (X 195) _ (X 195) = _
        rw [va_up_e]
        rfl
      · rw [va_up_ne _ _ (fun z => c195 (hXX _ _ a1 s195 z)), va_up_ne _ _ (fun z => c193 (hXX _ _ a1 s193 z)), (hX3 _ a1).2]
        by_cases i9 : i < 9
        · have hk14 := a4 i9
          have e1 : EX κ X (16 * i + k) = pS_E κ (fun m => X (16 * ((16 * i + k) / 16) + m)) (zS 10 10) ((16 * i + k) % 16) := by unfold EX; rw [if_pos (by omega)]
          rw [e1, show (16 * i + k) / 16 = i by omega, show (16 * i + k) % 16 = k by omega]
          have e2 : pv_eg κ (xSt X) (Z00 i) i k = pS_E κ (xSt X i) (zS 10 10) k := by
            rw [Z00_S i9]
            unfold pv_eg pS_E
            rw [if_pos i9]
          rw [e2]
          exact pS_E_congr (fun m hm => rfl) k
        · rcases (show i = 9 ∨ i = 10 ∨ i = 12 by omega) with rfl | rfl | rfl
          · have := a5 rfl
            rw [Z00_0 (Or.inl rfl)]
            rcases (show k = 0 ∨ k = 1 by omega) with rfl | rfl <;> rfl
          · have := a6 rfl
            subst this; rfl
          · have := a7 rfl
            rw [Z00_0 (Or.inr rfl)]
            rcases (show k = 0 ∨ k = 2 ∨ k = 4 by omega) with rfl | rfl | rfl <;> rfl
