/-! ===== p25: what holds of the whole object between the law's rounds ===== -/
def JV (Z : Nat → Nat → Nat → Int32) (n nx kp K : Nat) : Prop := IV (Z 0) n K ∧ (nx < 6 ∧ kp ≤ 6 ∧ Z 12 1 0 = nI nx ∧ Z 12 2 0 = nI kp) ∧ (∀ i : Nat, i < kp → ∃ m : Nat, IV (Z (1 + (nx + 6 - kp + i) % 6)) m K) ∧ (Z 12 4 1 = 1 ∧ IV (Z 8) 0 0 ∧ Z 8 14 0 = 0) ∧ Z 9 1 0 = 0
section JVS
variable {Z Z3 : Nat → Nat → Nat → Int32} {z2 : Nat → Nat → Int32} {n n2 nx kp K K2 : Nat}
theorem sK_12 (Z : Nat → Nat → Nat → Int32) (nx kp : Nat) : sKeep Z nx kp 12 = sRing (Z 12) ((nx + 1) % 6) (min 6 (kp + 1)) := by unfold sKeep; rw [va_up_e]
theorem sK_o (Z : Nat → Nat → Nat → Int32) {nx : Nat} (kp : Nat) {i : Nat} (h12 : i ≠ 12) (hi : i ≠ 1 + nx) : sKeep Z nx kp i = Z i := by unfold sKeep; rw [va_up_ne _ _ h12, va_up_ne _ _ hi]
theorem sK_e (Z : Nat → Nat → Nat → Int32) {nx : Nat} (kp : Nat) (hx : nx < 6) : sKeep Z nx kp (1 + nx) = sBec (Z (1 + nx)) (Z 0) := by unfold sKeep; rw [va_up_ne _ _ (by omega), va_up_e]
theorem JV.mono (h : JV Z n nx kp K) (hK : K ≤ K2) : JV Z n nx kp K2 := ⟨h.1.mono hK, h.2.1, fun i hi => (h.2.2.1 i hi).elim (fun m q => ⟨m, q.mono hK⟩), h.2.2.2⟩
/-- a change: the state before is kept -/
theorem JV_keep (h : JV Z n nx kp K) (hz : IV z2 n2 K2) (hK : K ≤ K2) : JV (va_up (sKeep Z nx kp) 0 z2) n2 ((nx + 1) % 6) (min 6 (kp + 1)) K2 := by
  obtain ⟨h1, ⟨a1, a2, a3, a4⟩, h3, ⟨s1, s2, s3⟩, h5⟩ := h
  have e : ∀ i : Nat, i ≠ 0 → va_up (sKeep Z nx kp) 0 z2 i = sKeep Z nx kp i := fun i hi => va_up_ne _ _ hi
  refine ⟨by rw [va_up_e]; exact hz, ⟨Nat.mod_lt _ (by decide), Nat.min_le_left _ _, by rw [e 12 (by decide), sK_12]; rfl, by rw [e 12 (by decide), sK_12]; rfl⟩, fun i hi => ?_, ⟨by rw [e 12 (by decide), sK_12]; exact s1, by rw [e 8 (by decide), sK_o Z kp (by decide) (by omega)]; exact s2, by rw [e 8 (by decide), sK_o Z kp (by decide) (by omega)]; exact s3⟩, by rw [e 9 (by decide), sK_o Z kp (by decide) (by omega)]; exact h5⟩
  have hm : min 6 (kp + 1) = if kp = 6 then 6 else kp + 1 := by split <;> omega
  have hx : ((nx + 1) % 6 + 6 - min 6 (kp + 1) + i) % 6 = if i + 1 = min 6 (kp + 1) then nx else if kp = 6 then (nx + 6 - kp + (i + 1)) % 6 else (nx + 6 - kp + i) % 6 := by
    rw [hm] at hi ⊢
    by_cases c6 : kp = 6
    · simp only [if_pos c6] at hi ⊢
      split <;> omega
    · simp only [if_neg c6] at hi ⊢
      split <;> omega
  rw [e _ (by omega)]
  by_cases c : i + 1 = min 6 (kp + 1)
  · rw [if_pos c] at hx
    rw [hx, sK_e Z kp a1]
    exact ⟨n, (h1.mono hK).sm (sm_bec.symm)⟩
  · rw [if_neg c] at hx
    by_cases c6 : kp = 6
    · rw [if_pos c6] at hx
      rw [hx, sK_o Z kp (by omega) (by omega)]
      obtain ⟨m, q⟩ := h3 (i + 1) (by omega)
      exact ⟨m, q.mono hK⟩
    · rw [if_neg c6] at hx
      rw [hx, sK_o Z kp (by omega) (by omega)]
      obtain ⟨m, q⟩ := h3 i (by omega)
      exact ⟨m, q.mono hK⟩
/-- nothing but the reader -/
theorem JV_RS (h : JV Z n nx kp K) (r : RS Z Z3) : JV Z3 n nx kp K := by
  obtain ⟨h1, ⟨a1, a2, a3, a4⟩, h3, ⟨s1, s2, s3⟩, h5⟩ := h
  have e : ∀ i : Nat, i ≠ 9 → i ≠ 10 → Z3 i = Z i := r.1
  exact ⟨by rw [e 0 (by decide) (by decide)]; exact h1, ⟨a1, a2, by rw [e 12 (by decide) (by decide)]; exact a3, by rw [e 12 (by decide) (by decide)]; exact a4⟩, fun i hi => by rw [e _ (by omega) (by omega)]; exact h3 i hi, ⟨by rw [e 12 (by decide) (by decide)]; exact s1, by rw [e 8 (by decide) (by decide)]; exact s2, by rw [e 8 (by decide) (by decide)]; exact s3⟩, r.2⟩
theorem RS.rf (h : Z 9 1 0 = 0) : RS Z Z := ⟨fun _ _ _ => rfl, h⟩
/-- saving into slot 0 -/
def zSv (Z : Nat → Nat → Nat → Int32) : Nat → Nat → Nat → Int32 := va_up (va_up Z 7 (sBec (Z 7) (Z 0))) 12 (zu (Z 12) 4 0 1)
theorem zSv_t (Z : Nat → Nat → Nat → Int32) : tSave (Z 0) 0 = Z 0 14 0 ∧ tSaveZ Z 0 = zSv Z := ⟨rfl, rfl⟩
theorem zSv_o {i : Nat} (h : i ≠ 7 ∧ i ≠ 12) : zSv Z i = Z i := by unfold zSv; rw [va_up_ne _ _ h.2, va_up_ne _ _ h.1]
theorem zSv_7 : zSv Z 7 = sBec (Z 7) (Z 0) := by unfold zSv; rw [va_up_ne _ _ (by decide), va_up_e]
theorem zSv_12 : zSv Z 12 = zu (Z 12) 4 0 1 := by unfold zSv; rw [va_up_e]
theorem JV_save (h : JV Z n nx kp K) : JV (zSv Z) n nx kp K := by
  obtain ⟨h1, ⟨a1, a2, a3, a4⟩, h3, ⟨s1, s2, s3⟩, h5⟩ := h
  exact ⟨by rw [zSv_o (by decide)]; exact h1, ⟨a1, a2, by rw [zSv_12, zu_o (by decide)]; exact a3, by rw [zSv_12, zu_o (by decide)]; exact a4⟩, fun i hi => by rw [zSv_o (by omega)]; exact h3 i hi, ⟨by rw [zSv_12, zu_en (by decide)]; exact s1, by rw [zSv_o (by decide)]; exact s2, by rw [zSv_o (by decide)]; exact s3⟩, by rw [zSv_o (by decide)]; exact h5⟩
/-- taking back -/
theorem sB_0 (Z : Nat → Nat → Nat → Int32) (nx kp : Nat) : sBack Z nx kp 0 = sBec (Z 0) (Z (1 + (nx + 6 - 1) % 6)) := by unfold sBack; rw [va_up_e]
theorem sB_12 (Z : Nat → Nat → Nat → Int32) (nx kp : Nat) : sBack Z nx kp 12 = sRing (Z 12) ((nx + 6 - 1) % 6) (kp - 1) := by unfold sBack; rw [va_up_ne _ _ (by decide), va_up_e]
theorem sB_o (Z : Nat → Nat → Nat → Int32) (nx kp : Nat) {i : Nat} (h : i ≠ 0 ∧ i ≠ 12) : sBack Z nx kp i = Z i := by unfold sBack; rw [va_up_ne _ _ h.1, va_up_ne _ _ h.2]
theorem JV_back (h : JV Z n nx kp K) (hk : 1 ≤ kp) (hz : IV (sBack Z nx kp 0) n2 K) : JV (sBack Z nx kp) n2 ((nx + 6 - 1) % 6) (kp - 1) K := by
  obtain ⟨h1, ⟨a1, a2, a3, a4⟩, h3, ⟨s1, s2, s3⟩, h5⟩ := h
  refine ⟨hz, ⟨Nat.mod_lt _ (by decide), by omega, by rw [sB_12]; rfl, by rw [sB_12]; rfl⟩, fun i hi => ?_, ⟨by rw [sB_12]; exact s1, by rw [sB_o Z nx kp (by decide)]; exact s2, by rw [sB_o Z nx kp (by decide)]; exact s3⟩, by rw [sB_o Z nx kp (by decide)]; exact h5⟩
  rw [sB_o Z nx kp (by omega), show ((nx + 6 - 1) % 6 + 6 - (kp - 1) + i) % 6 = (nx + 6 - kp + i) % 6 by omega]
  exact h3 i (by omega)
theorem JV_top (h : JV Z n nx kp K) (hk : 1 ≤ kp) : ∃ m : Nat, IV (sBack Z nx kp 0) m K := by
  obtain ⟨m, q⟩ := h.2.2.1 (kp - 1) (by omega)
  have a2 := h.2.1.2.1
  have a1 := h.2.1.1
  rw [show (nx + 6 - kp + (kp - 1)) % 6 = (nx + 6 - 1) % 6 by omega] at q
  refine ⟨m, ?_⟩
  rw [sB_0]
  exact q.sm sm_bec.symm
/-- the block: save, undo, restore -/
theorem sm_back (h : JV Z n nx kp K) : sm (sBack (zSv (va_up (sKeep Z nx kp) 0 z2)) ((nx + 1) % 6) (min 6 (kp + 1)) 0) (Z 0) := by
  have a1 := h.2.1.1
  rw [sB_0, show ((nx + 1) % 6 + 6 - 1) % 6 = nx by omega, zSv_o (i := 1 + nx) (by omega), va_up_ne _ _ (show 1 + nx ≠ 0 by omega), sK_e Z kp a1]
  exact sm_bec.trans sm_bec
theorem tRest0 {sl : Int32} {j : Nat} (hj : j < 2) (hs : sl = nI j) (h : Z 12 4 j = 1) (hx : nx < 6) : tRestore Z nx kp sl = Z (7 + j) 14 0 ∧ tRestoreZ Z nx kp sl = va_up (sKeep Z nx kp) 0 (sBec (Z 0) (Z (7 + j))) := by
  subst hs
  have b : ¬ bW (nI j) 0 1 = 0 := bW_in (lo := 0) (hi := 1) (Nat.zero_le _) (by omega) (by decide)
  unfold tRestore tRestoreZ
  rw [if_neg b, if_neg b, cl_nI (by omega), h, if_neg (by decide), if_neg (by decide), sK_o Z kp (by omega) (by omega)]
  exact ⟨rfl, rfl⟩
theorem tUnd (hk : 1 ≤ kp) : tUndo kp = nI (kp - 1) ∧ tUndoZ Z nx kp = sBack Z nx kp := by
  unfold tUndo tUndoZ
  exact ⟨if_neg (by omega), if_neg (by omega)⟩
theorem IV_t (h : IV z2 n K) (hK : K ≤ 100) : ¬ z2 14 0 < 0 := by
  obtain ⟨v, hv, e⟩ := h.2.2.2.2.2.2.2.2
  rw [e]; exact nI_pos (by omega)
/-! the beginning -/
theorem IV_00 : IV (zS 10 10) 0 0 := by
  refine ⟨⟨rfl, by decide⟩, fun j hj => ?_, fun e he => absurd he (Nat.not_lt_zero e), ⟨fun _ => 0, fun _ => 0, fun _ => 0, fun _ _ => rfl, fun _ _ => rfl, fun _ _ => rfl, fun _ _ _ => ⟨rfl, fun _ _ => rfl⟩, fun _ _ => Nat.le_of_eq (ns_z (fun _ _ => rfl)), fun _ _ => Nat.le_of_eq (ns_z (fun _ _ => rfl)), fun _ _ _ => ns_z (fun _ _ => rfl), rfl, Nat.le_refl 0⟩, fun p hp => Or.inl ?_, ⟨fun _ => 0, fun _ => 0, fun _ => 0, fun _ => 0, fun _ _ => ⟨rfl, rfl, rfl⟩, fun _ _ _ => rfl, rfl, fun _ _ _ => rfl, fun _ _ => Nat.zero_le _, Nat.le_refl 0⟩, fun p hp => ⟨5, by decide, ?_⟩, fun m hm => ⟨0, by decide, rfl⟩, ⟨0, Nat.le_refl 0, rfl⟩⟩
  · rcases (show j = 0 ∨ j = 1 ∨ j = 2 ∨ j = 3 ∨ j = 4 by omega) with rfl | rfl | rfl | rfl | rfl <;> decide +kernel
  · show sI11 10 p = -6
    rw [sI11_at, if_pos hp]
  · show sI6 10 p = nI 5
    rw [sI6_at, if_pos hp]; rfl
theorem Z00_c : Z00 0 0 0 = 40 ∧ Z00 0 0 1 = 25 ∧ Z00 0 0 2 = 3 ∧ Z00 0 0 3 = 5 ∧ Z00 0 0 4 = 4 ∧ bx_sum (Z00 0 6) 10 = 50 := by decide +kernel
theorem tUnd0 : tUndo 0 = -5 ∧ tUndoZ Z nx 0 = Z := ⟨rfl, rfl⟩
theorem tRest5 {sl : Int32} {j : Nat} (hj : j < 2) (hs : sl = nI j) (h : Z 12 4 j = 0) : tRestore Z nx kp sl = -5 ∧ tRestoreZ Z nx kp sl = Z := by
  subst hs
  have b : ¬ bW (nI j) 0 1 = 0 := bW_in (lo := 0) (hi := 1) (Nat.zero_le _) (by omega) (by decide)
  unfold tRestore tRestoreZ
  rw [if_neg b, if_neg b, cl_nI (by omega), if_pos h, if_pos h]
  exact ⟨rfl, rfl⟩
theorem JV_0 (r : RS Z00 Z) : JV (tSaveZ Z 1) 0 0 0 0 ∧ tSave (Z 0) 1 = 0 := by
  have e : ∀ i : Nat, i ≠ 9 → i ≠ 10 → Z i = Z00 i := r.1
  have z0 : Z 0 = zS 10 10 := (e 0 (by decide) (by decide)).trans (Z00_S (by decide))
  have z12 : Z 12 = fun _ _ => 0 := (e 12 (by decide) (by decide)).trans (Z00_0 (Or.inr rfl))
  have eS : tSaveZ Z 1 = va_up (va_up Z 8 (sBec (Z 8) (Z 0))) 12 (zu (Z 12) 4 1 1) := rfl
  have e14 : Z 0 14 0 = 0 := by rw [z0]; rfl
  rw [eS]
  refine ⟨⟨?_, ⟨by decide, by decide, ?_, ?_⟩, fun i hi => absurd hi (Nat.not_lt_zero i), ⟨?_, ?_, ?_⟩, ?_⟩, e14⟩
  · rw [va_up_ne _ _ (by decide), va_up_ne _ _ (by decide), z0]; exact IV_00
  · rw [va_up_e, zu_o (by decide), z12]; rfl
  · rw [va_up_e, zu_o (by decide), z12]; rfl
  · rw [va_up_e, zu_ee]
  · rw [va_up_ne _ _ (by decide), va_up_e]
    exact (show IV (Z 0) 0 0 by rw [z0]; exact IV_00).sm sm_bec.symm
  · rw [va_up_ne _ _ (by decide), va_up_e]
    exact (sBec_at (k := 14) (i := 0) rfl).trans e14
  · rw [va_up_ne _ _ (by decide), va_up_ne _ _ (by decide)]; exact r.2
end JVS
