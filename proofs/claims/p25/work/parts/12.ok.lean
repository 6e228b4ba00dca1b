/-! ===== the whole world as a table of groups: 0 the school in use, 1 to 6 the history's, 7 and 8 the slots', 9 the pad, 10 the reader, 12 history, class object and saved ===== -/
def pv_n (i : Nat) : Nat := if i < 9 then 14 else if i = 9 then 2 else if i = 10 then 1 else if i = 12 then 5 else 0
def pv_sl (k : Nat) : Nat := match k with | 0 => 5 | 2 => 12 | 3 => 12 | 4 => 12 | 5 => 120 | 12 => 5 | 13 => 5 | _ => 10
abbrev pv_so (a : Nat → Nat) (z : Nat → Nat → Int32) : List Value := [.ref (a 0), .int (z 1 0), .ref (a 2), .ref (a 3), .ref (a 4), .ref (a 5), .ref (a 6), .ref (a 7), .ref (a 8), .ref (a 9), .ref (a 10), .ref (a 11), .ref (a 12), .ref (a 13), .int (z 14 0)]
abbrev pv_ro (z : Nat → Nat → Int32) : List Value := [.int (z 0 0), .int (z 1 0), .int (z 2 0), .int (z 3 0), .int (z 4 0)]
def pv_eg (κ : pv_Kt) (x : Nat → Nat → Nat) (z : Nat → Nat → Int32) (i k : Nat) : va_E :=
  if i < 9 then (if k = 1 then .inr (3, pv_so (x i) z) else .inl (κ.2.1 1, pv_sl k, .inl (z k)))
  else if i = 9 then (if k = 1 then .inr (1, [.ref (x i 0), .int (z 1 0)]) else .inl (κ.2.1 0, 60, .inl (z 0)))
  else if i = 10 then .inr (2, pv_ro z)
  else if k = 0 then .inr (0, [.ref (x i 1), .int (z 1 0), .int (z 2 0)])
  else if k = 1 then .inl (κ.2.1 3, 6, .inr (.inr (.inr (.inr (fun j => some (x (1 + j) 1))))))
  else if k = 2 then .inr (4, [.ref (x 0 1), .ref (x i 0), .ref (x i 3), .ref (x i 4), .ref (x 9 1), .ref (x 10 0)])
  else if k = 3 then .inl (κ.2.1 3, 2, .inr (.inr (.inr (.inr (fun j => some (x (7 + j) 1))))))
  else .inl (κ.2.1 2, 2, .inl (z 4))
def pv_ok (κ : pv_Kt) (x : Nat → Nat → Nat) (L : List Nat) (f : Nat → va_E) (Z : Nat → Nat → Nat → Int32) : Prop := (∀ i k, k < pv_n i → x i k ∈ L) ∧ (∀ i k j l, k < pv_n i → l < pv_n j → x i k = x j l → i = j ∧ k = l) ∧ ∀ i k, k < pv_n i → f (x i k) = pv_eg κ x (Z i) i k
def pv_u (Z : Nat → Nat → Nat → Int32) (i k : Nat) (row : Nat → Int32) : Nat → Nat → Nat → Int32 := va_up Z i (va_up (Z i) k row)
/-- a field of its own: the row's place 0 -/
def pv_ui (Z : Nat → Nat → Nat → Int32) (i k : Nat) (v : Int32) : Nat → Nat → Nat → Int32 := pv_u Z i k (fun _ => v)
/-- one place of a row -/
def pv_ua (Z : Nat → Nat → Nat → Int32) (i k j : Nat) (v : Int32) : Nat → Nat → Nat → Int32 := pv_u Z i k (va_up (Z i k) j v)
section PVO
variable {κ : pv_Kt} {x : Nat → Nat → Nat} {L : List Nat} {f : Nat → va_E} {Z : Nat → Nat → Nat → Int32} {i k : Nat} {row : Nat → Int32}
theorem pv_u_o {j : Nat} (h : j ≠ i) : pv_u Z i k row j = Z j := by simp [pv_u, va_up, h]
theorem pv_u_i {l : Nat} (h : l ≠ k) : pv_u Z i k row i l = Z i l := by simp [pv_u, va_up, h]
theorem pv_u_e : pv_u Z i k row i k = row := by simp [pv_u, va_up]
theorem ok_mem (h : pv_ok κ x L f Z) (hk : k < pv_n i) : x i k ∈ L := h.1 i k hk
theorem pv_nS (hi : i < 9) (hk : k < 14) : k < pv_n i := by simp only [pv_n, if_pos hi]; exact hk
theorem ok_So (h : pv_ok κ x L f Z) (hi : i < 9) : f (x i 1) = .inr (3, pv_so (x i) (Z i)) := by
  rw [h.2.2 i 1 (pv_nS hi (by decide))]; simp only [pv_eg, if_pos hi, if_true]
theorem ok_Sa (h : pv_ok κ x L f Z) (hi : i < 9) (k : Nat) (hk : k < 14) (h1 : k ≠ 1) : f (x i k) = .inl (κ.2.1 1, pv_sl k, .inl (Z i k)) := by
  rw [h.2.2 i k (pv_nS hi hk)]; simp only [pv_eg, if_pos hi, if_neg h1]
theorem ok_Sm (h : pv_ok κ x L f Z) (hi : i < 9) (k : Nat) (hk : k < 14) : x i k ∈ L := h.1 i k (pv_nS hi hk)
theorem ok_Po (h : pv_ok κ x L f Z) : f (x 9 1) = .inr (1, [.ref (x 9 0), .int (Z 9 1 0)]) := h.2.2 9 1 (by decide)
theorem ok_Pa (h : pv_ok κ x L f Z) : f (x 9 0) = .inl (κ.2.1 0, 60, .inl (Z 9 0)) := h.2.2 9 0 (by decide)
theorem ok_Ro (h : pv_ok κ x L f Z) : f (x 10 0) = .inr (2, pv_ro (Z 10)) := h.2.2 10 0 (by decide)
theorem ok_Ho (h : pv_ok κ x L f Z) : f (x 12 0) = .inr (0, [.ref (x 12 1), .int (Z 12 1 0), .int (Z 12 2 0)]) := h.2.2 12 0 (by decide)
theorem ok_Hs (h : pv_ok κ x L f Z) : f (x 12 1) = .inl (κ.2.1 3, 6, .inr (.inr (.inr (.inr (fun j => some (x (1 + j) 1)))))) := h.2.2 12 1 (by decide)
theorem ok_Xo (h : pv_ok κ x L f Z) : f (x 12 2) = .inr (4, [.ref (x 0 1), .ref (x 12 0), .ref (x 12 3), .ref (x 12 4), .ref (x 9 1), .ref (x 10 0)]) := h.2.2 12 2 (by decide)
theorem ok_Xs (h : pv_ok κ x L f Z) : f (x 12 3) = .inl (κ.2.1 3, 2, .inr (.inr (.inr (.inr (fun j => some (x (7 + j) 1)))))) := h.2.2 12 3 (by decide)
theorem ok_Xb (h : pv_ok κ x L f Z) : f (x 12 4) = .inl (κ.2.1 2, 2, .inl (Z 12 4)) := h.2.2 12 4 (by decide)
/-- one cell changes -/
theorem ok_put {Z' : Nat → Nat → Nat → Int32} {E : va_E} (h : pv_ok κ x L f Z) (hk : k < pv_n i) (hE : pv_eg κ x (Z' i) i k = E) (ho : ∀ l, l < pv_n i → l ≠ k → pv_eg κ x (Z' i) i l = pv_eg κ x (Z i) i l) (hj : ∀ j, j ≠ i → Z' j = Z j) : pv_ok κ x L (va_up f (x i k) E) Z' := by
  refine ⟨h.1, h.2.1, fun j l hl => ?_⟩
  by_cases e : x j l = x i k
  · obtain ⟨rfl, rfl⟩ := h.2.1 j l i k hl hk e
    rw [hE]; simp [va_up]
  · have e1 : va_up f (x i k) E (x j l) = f (x j l) := by simp [va_up, e]
    rw [e1, h.2.2 j l hl]
    by_cases ej : j = i
    · subst ej
      exact (ho l hl (fun z => e (by rw [z]))).symm
    · rw [hj j ej]
theorem okp_Sa (h : pv_ok κ x L f Z) (hi : i < 9) (hk : k < 14) (h1 : k ≠ 1) {n : Nat} (hn : pv_sl k = n) : pv_ok κ x L (va_up f (x i k) (.inl (κ.2.1 1, n, .inl row))) (pv_u Z i k row) := by
  subst hn
  refine ok_put h (pv_nS hi hk) ?_ (fun l _ hl => ?_) (fun j hj => pv_u_o hj)
  · simp only [pv_eg, if_pos hi, if_neg h1, pv_u_e]
  · have e1 : pv_u Z i k row i 1 = Z i 1 := pv_u_i (Ne.symm h1)
    have e2 : pv_u Z i k row i 14 = Z i 14 := pv_u_i (by omega)
    simp only [pv_eg, if_pos hi, pv_so, e1, e2, pv_u_i hl]
theorem okp_So (h : pv_ok κ x L f Z) (hi : i < 9) (v : Int32) : pv_ok κ x L (va_up f (x i 1) (.inr (3, (pv_so (x i) (Z i)).set 1 (.int v)))) (pv_ui Z i 1 v) := by
  refine ok_put h (pv_nS hi (by decide)) ?_ (fun l _ hl => ?_) (fun j hj => pv_u_o hj)
  · have e2 : pv_u Z i 1 (fun _ => v) i 14 = Z i 14 := pv_u_i (by decide)
    simp only [pv_eg, if_pos hi, if_true, pv_ui, pv_so, e2, pv_u_e]; rfl
  · simp only [pv_eg, if_pos hi, if_neg hl, pv_ui, pv_u_i hl]
theorem okp_St (h : pv_ok κ x L f Z) (hi : i < 9) (v : Int32) : pv_ok κ x L (va_up f (x i 1) (.inr (3, (pv_so (x i) (Z i)).set 14 (.int v)))) (pv_ui Z i 14 v) := by
  refine ok_put h (pv_nS hi (by decide)) ?_ (fun l hll hl => ?_) (fun j hj => pv_u_o hj)
  · have e2 : pv_u Z i 14 (fun _ => v) i 1 = Z i 1 := pv_u_i (by decide)
    simp only [pv_eg, if_pos hi, if_true, pv_ui, pv_so, e2, pv_u_e]; rfl
  · have h14 : l ≠ 14 := by
      simp only [pv_n, if_pos hi] at hll
      omega
    simp only [pv_eg, if_pos hi, if_neg hl, pv_ui, pv_u_i h14]
theorem pv_uu : pv_u Z i k row i = va_up (Z i) k row := by simp [pv_u, va_up]
theorem okp_Pa (h : pv_ok κ x L f Z) : pv_ok κ x L (va_up f (x 9 0) (.inl (κ.2.1 0, 60, .inl row))) (pv_u Z 9 0 row) := by
  refine ok_put h (by decide) (by rw [pv_uu]; rfl) (fun l hl hne => ?_) (fun j hj => pv_u_o hj)
  rw [pv_uu]
  have hl2 : l < 2 := hl
  rcases (show l = 0 ∨ l = 1 by omega) with rfl | rfl <;> first | rfl | exact absurd rfl hne
theorem okp_Po (h : pv_ok κ x L f Z) (v : Int32) : pv_ok κ x L (va_up f (x 9 1) (.inr (1, [.ref (x 9 0), .int v]))) (pv_ui Z 9 1 v) := by
  refine ok_put h (by decide) (by rw [pv_ui, pv_uu]; rfl) (fun l hl hne => ?_) (fun j hj => pv_u_o hj)
  rw [pv_ui, pv_uu]
  have hl2 : l < 2 := hl
  rcases (show l = 0 ∨ l = 1 by omega) with rfl | rfl <;> first | rfl | exact absurd rfl hne
theorem okp_R0 (h : pv_ok κ x L f Z) (v : Int32) : pv_ok κ x L (va_up f (x 10 0) (.inr (2, [.int v, .int (Z 10 1 0), .int (Z 10 2 0), .int (Z 10 3 0), .int (Z 10 4 0)]))) (pv_ui Z 10 0 v) := by
  refine ok_put h (by decide) (by rw [pv_ui, pv_uu]; rfl) (fun l hl hne => ?_) (fun j hj => pv_u_o hj)
  rw [pv_ui, pv_uu]
  have hl2 : l < 1 := hl
  rcases (show l = 0 by omega) with rfl <;> first | rfl | exact absurd rfl hne
theorem okp_R1 (h : pv_ok κ x L f Z) (v : Int32) : pv_ok κ x L (va_up f (x 10 0) (.inr (2, [.int (Z 10 0 0), .int v, .int (Z 10 2 0), .int (Z 10 3 0), .int (Z 10 4 0)]))) (pv_ui Z 10 1 v) := by
  refine ok_put h (by decide) (by rw [pv_ui, pv_uu]; rfl) (fun l hl hne => ?_) (fun j hj => pv_u_o hj)
  rw [pv_ui, pv_uu]
  have hl2 : l < 1 := hl
  rcases (show l = 0 by omega) with rfl <;> first | rfl | exact absurd rfl hne
theorem okp_R2 (h : pv_ok κ x L f Z) (v : Int32) : pv_ok κ x L (va_up f (x 10 0) (.inr (2, [.int (Z 10 0 0), .int (Z 10 1 0), .int v, .int (Z 10 3 0), .int (Z 10 4 0)]))) (pv_ui Z 10 2 v) := by
  refine ok_put h (by decide) (by rw [pv_ui, pv_uu]; rfl) (fun l hl hne => ?_) (fun j hj => pv_u_o hj)
  rw [pv_ui, pv_uu]
  have hl2 : l < 1 := hl
  rcases (show l = 0 by omega) with rfl <;> first | rfl | exact absurd rfl hne
theorem okp_R3 (h : pv_ok κ x L f Z) (v : Int32) : pv_ok κ x L (va_up f (x 10 0) (.inr (2, [.int (Z 10 0 0), .int (Z 10 1 0), .int (Z 10 2 0), .int v, .int (Z 10 4 0)]))) (pv_ui Z 10 3 v) := by
  refine ok_put h (by decide) (by rw [pv_ui, pv_uu]; rfl) (fun l hl hne => ?_) (fun j hj => pv_u_o hj)
  rw [pv_ui, pv_uu]
  have hl2 : l < 1 := hl
  rcases (show l = 0 by omega) with rfl <;> first | rfl | exact absurd rfl hne
theorem okp_R4 (h : pv_ok κ x L f Z) (v : Int32) : pv_ok κ x L (va_up f (x 10 0) (.inr (2, [.int (Z 10 0 0), .int (Z 10 1 0), .int (Z 10 2 0), .int (Z 10 3 0), .int v]))) (pv_ui Z 10 4 v) := by
  refine ok_put h (by decide) (by rw [pv_ui, pv_uu]; rfl) (fun l hl hne => ?_) (fun j hj => pv_u_o hj)
  rw [pv_ui, pv_uu]
  have hl2 : l < 1 := hl
  rcases (show l = 0 by omega) with rfl <;> first | rfl | exact absurd rfl hne
theorem okp_H1 (h : pv_ok κ x L f Z) (v : Int32) : pv_ok κ x L (va_up f (x 12 0) (.inr (0, [.ref (x 12 1), .int v, .int (Z 12 2 0)]))) (pv_ui Z 12 1 v) := by
  refine ok_put h (by decide) (by rw [pv_ui, pv_uu]; rfl) (fun l hl hne => ?_) (fun j hj => pv_u_o hj)
  rw [pv_ui, pv_uu]
  have hl2 : l < 5 := hl
  rcases (show l = 0 ∨ l = 1 ∨ l = 2 ∨ l = 3 ∨ l = 4 by omega) with rfl | rfl | rfl | rfl | rfl <;> first | rfl | exact absurd rfl hne
theorem okp_H2 (h : pv_ok κ x L f Z) (v : Int32) : pv_ok κ x L (va_up f (x 12 0) (.inr (0, [.ref (x 12 1), .int (Z 12 1 0), .int v]))) (pv_ui Z 12 2 v) := by
  refine ok_put h (by decide) (by rw [pv_ui, pv_uu]; rfl) (fun l hl hne => ?_) (fun j hj => pv_u_o hj)
  rw [pv_ui, pv_uu]
  have hl2 : l < 5 := hl
  rcases (show l = 0 ∨ l = 1 ∨ l = 2 ∨ l = 3 ∨ l = 4 by omega) with rfl | rfl | rfl | rfl | rfl <;> first | rfl | exact absurd rfl hne
theorem okp_X4 (h : pv_ok κ x L f Z) : pv_ok κ x L (va_up f (x 12 4) (.inl (κ.2.1 2, 2, .inl row))) (pv_u Z 12 4 row) := by
  refine ok_put h (by decide) (by rw [pv_uu]; rfl) (fun l hl hne => ?_) (fun j hj => pv_u_o hj)
  rw [pv_uu]
  have hl2 : l < 5 := hl
  rcases (show l = 0 ∨ l = 1 ∨ l = 2 ∨ l = 3 ∨ l = 4 by omega) with rfl | rfl | rfl | rfl | rfl <;> first | rfl | exact absurd rfl hne
end PVO
