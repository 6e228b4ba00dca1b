theorem pS_E_congr {κ : pv_Kt} {xs ys : Nat → Nat} {z : Nat → Nat → Int32} (h : ∀ m, m < 14 → xs m = ys m) (k : Nat) : pS_E κ xs z k = pS_E κ ys z k := by
  unfold pS_E pv_so
  rw [h 0 (by decide), h 2 (by decide), h 3 (by decide), h 4 (by decide), h 5 (by decide), h 6 (by decide), h 7 (by decide), h 8 (by decide), h 9 (by decide), h 10 (by decide), h 11 (by decide), h 12 (by decide), h 13 (by decide)]
/-- the history's codes when i of its schools are made, and their contents -/
abbrev SH (i : Nat) : Nat → Prop := fun c => c = 192 ∨ c = 193 ∨ (16 ≤ c ∧ c < 16 * (i + 1) ∧ c % 16 < 14)
def rowH (i : Nat) (xs : Nat → Nat) : Nat → Option Nat := fun j => if j < i then some (xs (16 * (1 + j) + 1)) else none
def EH (κ : pv_Kt) (i : Nat) (xs : Nat → Nat) (c : Nat) : va_E := if c = 192 then .inr (0, [.ref (xs 193), .int 0, .int 0]) else if c = 193 then .inl (κ.2.1 3, 6, .inr (.inr (.inr (.inr (rowH i xs))))) else pS_E κ (fun k => xs (16 * (c / 16) + k)) (zS 10 10) (c % 16)
/-- a school comes in under the codes B to B + 13 -/
theorem p1_school {κ : pv_Kt} {o : Nat} {X : Nat → Nat} {L0 : List Nat} {f0 : Nat → va_E} {a : Nat} {L1 : List Nat} {f1 : Nat → va_E} {S : Nat → Prop} {E : Nat → va_E} {e : va_E} {q B : Nat} {M2 : List Nat} {g2 : Nat → va_E} (h : p1 o (va_up X (B + 1) q) L0 f0 a L1 f1 (fun c => c = B + 1 ∨ S c) (va_up E (B + 1) e)) (hne : B + 1 ≠ o) (hS : ∀ d, d < 14 → ¬ S (B + d)) (hy : pv_Wn 1 L1 f1 q (fun k => k < 14) (fun xs => pS_E κ xs (zS 10 10)) (M2, g2)) : ∃ X2 : Nat → Nat, (∀ c, S c → X2 c = X c) ∧ X2 (B + 1) = q ∧ p1 o X2 L0 f0 a M2 g2 (fun c => S c ∨ (B ≤ c ∧ c - B < 14)) (fun c => if B ≤ c ∧ c - B < 14 then pS_E κ (fun k => X2 (B + k)) (zS 10 10) (c - B) else E c) := by
  obtain ⟨ys, hy⟩ := hy
  have hy2 : p1 1 ys L1 f1 (va_up X (B + 1) q (B + 1)) M2 g2 (fun k => k < 14) (pS_E κ ys (zS 10 10)) := by rw [va_up_e]; exact hy
  have hin := p1_in h B (Or.inl rfl) hne hy2 (fun d hd hd1 z => z.elim (fun w => hd1 (by omega)) (hS d hd))
  have hoS : S o := h.2.2.2.2.1.resolve_left (fun z => hne z.symm)
  refine ⟨_, fun c hc => ?_, ?_, p1_to hin (fun c hc => ?_) (Or.inl hoS) (fun c hc => ?_)⟩
  · have hn : ¬ (B ≤ c ∧ c - B < 14) := fun z => hS (c - B) z.2 (by rw [show B + (c - B) = c by omega]; exact hc)
    have hn1 : c ≠ B + 1 := fun z => hn (by omega)
    show (if B ≤ c ∧ c - B < 14 then ys (c - B) else va_up X (B + 1) q c) = X c
    rw [if_neg hn, va_up_ne _ _ hn1]
  · show (if B ≤ B + 1 ∧ B + 1 - B < 14 then ys (B + 1 - B) else va_up X (B + 1) q (B + 1)) = q
    rw [if_pos (by omega), show B + 1 - B = 1 by omega]
    exact hy.2.2.2.2.2.1
  · exact hc.elim (fun z => Or.inl (Or.inr z)) Or.inr
  · show (if B ≤ c ∧ c - B < 14 then _ else _) = (if B ≤ c ∧ c - B < 14 then pS_E κ ys (zS 10 10) (c - B) else va_up E (B + 1) e c)
    by_cases z : B ≤ c ∧ c - B < 14
    · rw [if_pos z, if_pos z]
      refine pS_E_congr (fun m hm => ?_) _
      show (if B ≤ B + m ∧ B + m - B < 14 then ys (B + m - B) else va_up X (B + 1) q (B + m)) = ys m
      rw [if_pos (by omega), show B + m - B = m by omega]
    · rw [if_neg z, if_neg z, va_up_ne _ _ (fun w => z (by omega))]
/-- one round of the history's loop -/
theorem pH_step {κ : pv_Kt} {X : Nat → Nat} {L : List Nat} {f : Nat → va_E} {a i : Nat} {M2 : List Nat} {g3 : Nat → va_E} {X2 : Nat → Nat} {q : Nat} (hi : i < 6) (hX : ∀ c, SH i c → X2 c = X c) (hq : X2 (16 * (1 + i) + 1) = q)
    (h : p1 192 X2 L f a M2 g3 (fun c => SH i c ∨ (16 * (1 + i) ≤ c ∧ c - 16 * (1 + i) < 14)) (va_up (fun c => if 16 * (1 + i) ≤ c ∧ c - 16 * (1 + i) < 14 then pS_E κ (fun k => X2 (16 * (1 + i) + k)) (zS 10 10) (c - 16 * (1 + i)) else EH κ i X c) 193 (.inl (κ.2.1 3, 6, .inr (.inr (.inr (.inr (va_up (rowH i X) i (some q)))))))) ) : p1 192 X2 L f a M2 g3 (SH (i + 1)) (EH κ (i + 1) X2) := by
  refine p1_to h (fun c hc => ?_) (Or.inl rfl) (fun c hc => ?_)
  · have hc : c = 192 ∨ c = 193 ∨ (16 ≤ c ∧ c < 16 * (i + 1 + 1) ∧ c % 16 < 14) := hc
    show (c = 192 ∨ c = 193 ∨ (16 ≤ c ∧ c < 16 * (i + 1) ∧ c % 16 < 14)) ∨ _
    omega
  · have hc : c = 192 ∨ c = 193 ∨ (16 ≤ c ∧ c < 16 * (i + 1 + 1) ∧ c % 16 < 14) := hc
    by_cases c193 : c = 193
    · subst c193
      rw [va_up_e]
      show (Sum.inl (κ.2.1 3, 6, .inr (.inr (.inr (.inr (rowH (i + 1) X2))))) : va_E) = _
      have e : rowH (i + 1) X2 = va_up (rowH i X) i (some q) := by
        funext j
        unfold rowH
        by_cases w : j = i
        · subst w
          rw [va_up_e, if_pos (by omega), hq]
        · rw [va_up_ne _ _ w]
          by_cases v : j < i
          · rw [if_pos (by omega), if_pos v, hX _ (Or.inr (Or.inr ⟨by omega, by omega, by omega⟩))]
          · rw [if_neg (by omega), if_neg v]
      rw [e]
    · rw [va_up_ne _ _ c193]
      by_cases c192 : c = 192
      · subst c192
        show _ = (if 16 * (1 + i) ≤ 192 ∧ 192 - 16 * (1 + i) < 14 then _ else EH κ i X 192)
        rw [if_neg (by omega)]
        show (Sum.inr (0, [.ref (X2 193), .int 0, .int 0]) : va_E) = .inr (0, [.ref (X 193), .int 0, .int 0])
        rw [hX 193 (Or.inr (Or.inl rfl))]
      · have hr := (hc.resolve_left c192).resolve_left c193
        show EH κ (i + 1) X2 c = (if 16 * (1 + i) ≤ c ∧ c - 16 * (1 + i) < 14 then pS_E κ (fun k => X2 (16 * (1 + i) + k)) (zS 10 10) (c - 16 * (1 + i)) else EH κ i X c)
        unfold EH
        rw [if_neg c192, if_neg c193, if_neg c192, if_neg c193]
        by_cases z : 16 * (1 + i) ≤ c ∧ c - 16 * (1 + i) < 14
        · rw [if_pos z, show c / 16 = 1 + i by omega, show c % 16 = c - 16 * (1 + i) by omega]
        · rw [if_neg z]
          exact pS_E_congr (fun m hm => hX _ (Or.inr (Or.inr ⟨by omega, by omega, by omega⟩))) _
