/-- what another constructor made comes in under the codes B + d, its contents told by the addresses -/
theorem p1_obj {o : Nat} {X : Nat → Nat} {L0 : List Nat} {f0 : Nat → va_E} {a : Nat} {L1 : List Nat} {f1 : Nat → va_E} {S : Nat → Prop} {E : Nat → va_E} {e : va_E} {q B o2 : Nat} {M2 : List Nat} {g2 : Nat → va_E} {S2 : Nat → Prop} [DecidablePred S2] {F : (Nat → Nat) → Nat → va_E} (hF : ∀ xs ys : Nat → Nat, (∀ m, S2 m → xs m = ys m) → ∀ k, S2 k → F xs k = F ys k) (h : p1 o (va_up X (B + o2) q) L0 f0 a L1 f1 (fun c => c = B + o2 ∨ S c) (va_up E (B + o2) e)) (hne : B + o2 ≠ o) (hS : ∀ d, S2 d → ¬ S (B + d)) (hy : pv_Wn o2 L1 f1 q S2 F (M2, g2)) : ∃ X2 : Nat → Nat, (∀ c, S c → X2 c = X c) ∧ X2 (B + o2) = q ∧ p1 o X2 L0 f0 a M2 g2 (fun c => S c ∨ (B ≤ c ∧ S2 (c - B))) (fun c => if B ≤ c ∧ S2 (c - B) then F (fun k => X2 (B + k)) (c - B) else E c) := by
  obtain ⟨ys, hy⟩ := hy
  have ho2 : S2 o2 := hy.2.2.2.2.1
  have hy2 : p1 o2 ys L1 f1 (va_up X (B + o2) q (B + o2)) M2 g2 S2 (F ys) := by rw [va_up_e]; exact hy
  have hin := p1_in h B (Or.inl rfl) hne hy2 (fun d hd hd1 z => z.elim (fun w => hd1 (by omega)) (hS d hd))
  have hoS : S o := h.2.2.2.2.1.resolve_left (fun z => hne z.symm)
  refine ⟨_, fun c hc => ?_, ?_, p1_to hin (fun c hc => ?_) (Or.inl hoS) (fun c hc => ?_)⟩
  · have hn : ¬ (B ≤ c ∧ S2 (c - B)) := fun z => hS (c - B) z.2 (by rw [show B + (c - B) = c by omega]; exact hc)
    have hn1 : c ≠ B + o2 := fun z => hn ⟨by omega, by rw [show c - B = o2 by omega]; exact ho2⟩
    show (if B ≤ c ∧ S2 (c - B) then ys (c - B) else va_up X (B + o2) q c) = X c
    rw [if_neg hn, va_up_ne _ _ hn1]
  · show (if B ≤ B + o2 ∧ S2 (B + o2 - B) then ys (B + o2 - B) else va_up X (B + o2) q (B + o2)) = q
    rw [if_pos ⟨by omega, by rw [show B + o2 - B = o2 by omega]; exact ho2⟩, show B + o2 - B = o2 by omega]
    exact hy.2.2.2.2.2.1
  · exact hc.elim (fun z => Or.inl (Or.inr z)) Or.inr
  · show (if B ≤ c ∧ S2 (c - B) then _ else _) = (if B ≤ c ∧ S2 (c - B) then F ys (c - B) else va_up E (B + o2) e c)
    by_cases z : B ≤ c ∧ S2 (c - B)
    · rw [if_pos z, if_pos z]
      refine hF _ _ (fun m hm => ?_) _ z.2
      show (if B ≤ B + m ∧ S2 (B + m - B) then ys (B + m - B) else va_up X (B + o2) q (B + m)) = ys m
      have em : B + m - B = m := by omega
      rw [if_pos ⟨by omega, by rw [em]; exact hm⟩, em]
    · rw [if_neg z, if_neg z, va_up_ne _ _ (fun w => z ⟨by omega, by rw [show c - B = o2 by omega]; exact ho2⟩)]
theorem hF_S {κ : pv_Kt} {z : Nat → Nat → Int32} (xs ys : Nat → Nat) (h : ∀ m, m < 14 → xs m = ys m) (k : Nat) (_ : k < 14) : pS_E κ xs z k = pS_E κ ys z k := pS_E_congr h k
theorem hF_H {κ : pv_Kt} (xs ys : Nat → Nat) (h : ∀ m, SH 6 m → xs m = ys m) (k : Nat) (hk : SH 6 k) : EH κ 6 xs k = EH κ 6 ys k := by
  have hk : k = 192 ∨ k = 193 ∨ (16 ≤ k ∧ k < 16 * (6 + 1) ∧ k % 16 < 14) := hk
  unfold EH
  by_cases c1 : k = 192
  · rw [if_pos c1, if_pos c1, h 193 (Or.inr (Or.inl rfl))]
  · rw [if_neg c1, if_neg c1]
    by_cases c2 : k = 193
    · rw [if_pos c2, if_pos c2]
      have e : rowH 6 xs = rowH 6 ys := by
        funext j
        unfold rowH
        by_cases w : j < 6
        · rw [if_pos w, if_pos w, h _ (Or.inr (Or.inr ⟨by omega, by omega, by omega⟩))]
        · rw [if_neg w, if_neg w]
      rw [e]
    · rw [if_neg c2, if_neg c2]
      exact pS_E_congr (fun m hm => h _ (Or.inr (Or.inr ⟨by omega, by omega, by omega⟩))) _
abbrev EP (κ : pv_Kt) (xs : Nat → Nat) (k : Nat) : va_E := if k = 1 then .inr (1, [.ref (xs 0), .int 0]) else .inl (κ.2.1 0, 60, .inl (fun _ => 0))
abbrev ER (xs : Nat → Nat) (k : Nat) : va_E := .inr (2, [.int 0, .int 0, .int 0, .int 0, .int (-6)])
theorem hF_P {κ : pv_Kt} (xs ys : Nat → Nat) (h : ∀ m, m < 2 → xs m = ys m) (k : Nat) (_ : k < 2) : EP κ xs k = EP κ ys k := by
  unfold EP
  rw [h 0 (by decide)]
theorem hF_R (xs ys : Nat → Nat) (_ : ∀ m, m = 0 → xs m = ys m) (k : Nat) (_ : k = 0) : ER xs k = ER ys k := rfl
/-- the class's codes and contents when it is made -/
abbrev SX (c : Nat) : Prop := (c < 144 ∧ c % 16 < 14) ∨ c = 144 ∨ c = 145 ∨ c = 160 ∨ (192 ≤ c ∧ c ≤ 196)
def rowX (xs : Nat → Nat) : Nat → Option Nat := fun j => if j < 2 then some (xs (16 * (7 + j) + 1)) else none
def EX (κ : pv_Kt) (xs : Nat → Nat) (c : Nat) : va_E :=
  if c < 144 then pS_E κ (fun k => xs (16 * (c / 16) + k)) (zS 10 10) (c % 16)
  else if c = 144 then .inl (κ.2.1 0, 60, .inl (fun _ => 0))
  else if c = 145 then .inr (1, [.ref (xs 144), .int 0])
  else if c = 160 then .inr (2, [.int 0, .int 0, .int 0, .int 0, .int (-6)])
  else if c = 192 then .inr (0, [.ref (xs 193), .int 0, .int 0])
  else if c = 193 then .inl (κ.2.1 3, 6, .inr (.inr (.inr (.inr (rowH 6 xs)))))
  else if c = 194 then .inr (4, [.ref (xs 1), .ref (xs 192), .ref (xs 195), .ref (xs 196), .ref (xs 145), .ref (xs 160)])
  else if c = 195 then .inl (κ.2.1 3, 2, .inr (.inr (.inr (.inr (rowX xs)))))
  else .inl (κ.2.1 2, 2, .inl (fun _ => 0))
