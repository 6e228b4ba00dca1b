/-! ===== what a constructor makes: the pool L0, f0 grows to L, f; a is the object made (code o), xs the addresses of its codes S, E their contents ===== -/
def p1 (o : Nat) (xs : Nat → Nat) (L0 : List Nat) (f0 : Nat → va_E) (a : Nat) (L : List Nat) (f : Nat → va_E) (S : Nat → Prop) (E : Nat → va_E) : Prop :=
  (∀ b ∈ L0, b ∈ L ∧ (b ≠ a → f b = f0 b)) ∧ (∀ k, S k → xs k ∈ L ∧ f (xs k) = E k) ∧ (∀ j k, S j → S k → xs j = xs k → j = k) ∧ (∀ k, S k → k ≠ o → xs k ∉ L0) ∧ S o ∧ xs o = a ∧ a ∈ L0
section PONE
variable {o : Nat} {xs : Nat → Nat} {L0 : List Nat} {f0 : Nat → va_E} {a : Nat} {L : List Nat} {f : Nat → va_E} {S S' : Nat → Prop} {E E' : Nat → va_E}
theorem p1_0 {e : va_E} (o : Nat) (ha : a ∈ L) (hf : f a = e) : p1 o (fun _ => a) L f a L f (fun k => k = o) (fun _ => e) :=
  ⟨fun b hb => ⟨hb, fun _ => rfl⟩, fun k hk => ⟨ha, hf⟩, fun j k hj hk _ => hj.trans hk.symm, fun k hk h => absurd hk h, rfl, rfl, ha⟩
theorem p1_o (h : p1 o xs L0 f0 a L f S E) : a ∈ L ∧ f a = E o := by
  have h1 := h.2.1 o h.2.2.2.2.1
  rw [h.2.2.2.2.2.1] at h1
  exact h1
theorem p1_at (h : p1 o xs L0 f0 a L f S E) {k : Nat} (hk : S k) : xs k ∈ L ∧ f (xs k) = E k := h.2.1 k hk
theorem p1_push (h : p1 o xs L0 f0 a L f S E) {q : Nat} (hq : q ∉ L) (k : Nat) (hk : ¬ S k) (e : va_E) : p1 o (va_up xs k q) L0 f0 a (L ++ [q]) (va_up f q e) (fun c => c = k ∨ S c) (va_up E k e) := by
  obtain ⟨h1, h2, h3, h4, h5, h6, h7⟩ := h
  have hko : ∀ c, S c → c ≠ k := fun c hc z => hk (z ▸ hc)
  have hLq : ∀ b, b ∈ L → b ≠ q := fun b hb z => hq (z ▸ hb)
  refine ⟨fun b hb => ⟨List.mem_append_left _ (h1 b hb).1, fun hba => (va_up_ne _ _ (hLq b (h1 b hb).1)).trans ((h1 b hb).2 hba)⟩, fun c hc => ?_, fun c d hc hd => ?_, fun c hc hco => ?_, Or.inr h5, (va_up_ne _ _ (hko o h5)).trans h6, h7⟩
  · by_cases z : c = k
    · subst z
      rw [va_up_e, va_up_e]
      exact ⟨List.mem_append_right _ List.mem_cons_self, va_up_e.symm⟩
    · have hc' := hc.resolve_left z
      rw [va_up_ne _ _ z, va_up_ne _ _ z, va_up_ne _ _ (hLq _ (h2 c hc').1)]
      exact ⟨List.mem_append_left _ (h2 c hc').1, (h2 c hc').2⟩
  · intro hcd
    by_cases z : c = k
    · by_cases w : d = k
      · rw [z, w]
      · rw [z, va_up_e, va_up_ne _ _ w] at hcd
        exact absurd hcd.symm (hLq _ (h2 d (hd.resolve_left w)).1)
    · by_cases w : d = k
      · rw [w, va_up_e, va_up_ne _ _ z] at hcd
        exact absurd hcd (hLq _ (h2 c (hc.resolve_left z)).1)
      · rw [va_up_ne _ _ z, va_up_ne _ _ w] at hcd
        exact h3 c d (hc.resolve_left z) (hd.resolve_left w) hcd
  · by_cases z : c = k
    · rw [z, va_up_e]
      exact fun w => hq (h1 q w).1
    · rw [va_up_ne _ _ z]
      exact h4 c (hc.resolve_left z) hco
theorem p1_set (h : p1 o xs L0 f0 a L f S E) {k q : Nat} (hk : S k) (hq : xs k = q) (e : va_E) : p1 o xs L0 f0 a L (va_up f q e) S (va_up E k e) := by
  subst hq
  obtain ⟨h1, h2, h3, h4, h5, h6, h7⟩ := h
  refine ⟨fun b hb => ⟨(h1 b hb).1, fun hba => ?_⟩, fun c hc => ⟨(h2 c hc).1, ?_⟩, h3, h4, h5, h6, h7⟩
  · by_cases z : k = o
    · subst z
      rw [h6, va_up_ne _ _ hba]; exact (h1 b hb).2 hba
    · rw [va_up_ne _ _ (fun w => h4 k hk z (by rw [← w]; exact hb))]; exact (h1 b hb).2 hba
  · by_cases z : c = k
    · subst z
      rw [va_up_e, va_up_e]
    · rw [va_up_ne _ _ z, va_up_ne _ _ (fun w => z (h3 c k hc hk w))]
      exact (h2 c hc).2
theorem p1_to (h : p1 o xs L0 f0 a L f S E) (hS : ∀ k, S' k → S k) (ho : S' o) (hE : ∀ k, S' k → E' k = E k) : p1 o xs L0 f0 a L f S' E' := by
  obtain ⟨h1, h2, h3, h4, h5, h6, h7⟩ := h
  exact ⟨h1, fun k hk => ⟨(h2 k (hS k hk)).1, by rw [hE k hk]; exact (h2 k (hS k hk)).2⟩, fun j k hj hk => h3 j k (hS j hj) (hS k hk), fun k hk => h4 k (hS k hk), ho, h6, h7⟩
/-- what another constructor made of the object at B + o2 comes in, its code d under the code B + d -/
theorem p1_in (h : p1 o xs L0 f0 a L f S E) (B : Nat) {o2 : Nat} {ys : Nat → Nat} {L2 : List Nat} {f2 : Nat → va_E} {S2 : Nat → Prop} [DecidablePred S2] {E2 : Nat → va_E} (hk : S (B + o2)) (hko : B + o2 ≠ o) (h2 : p1 o2 ys L f (xs (B + o2)) L2 f2 S2 E2) (hfr : ∀ d, S2 d → d ≠ o2 → ¬ S (B + d)) : p1 o (fun c => if B ≤ c ∧ S2 (c - B) then ys (c - B) else xs c) L0 f0 a L2 f2 (fun c => S c ∨ (B ≤ c ∧ S2 (c - B))) (fun c => if B ≤ c ∧ S2 (c - B) then E2 (c - B) else E c) := by
  obtain ⟨h1, hh2, h3, h4, h5, h6, h7⟩ := h
  obtain ⟨g1, g2, g3, g4, g5, g6, g7⟩ := h2
  have hxk : xs (B + o2) ∉ L0 := h4 _ hk hko
  have hDk : B ≤ B + o2 ∧ S2 (B + o2 - B) := ⟨by omega, by rw [show B + o2 - B = o2 by omega]; exact g5⟩
  have hDo : ¬ (B ≤ o ∧ S2 (o - B)) := fun z => hfr (o - B) z.2 (fun w => hko (by omega)) (by rw [show B + (o - B) = o by omega]; exact h5)
  have hys : ∀ d, S2 d → d ≠ o2 → ys d ∉ L := g4
  have ne : ∀ c d, (B ≤ c ∧ S2 (c - B)) → ¬ (B ≤ d ∧ S2 (d - B)) → S d → ¬ ys (c - B) = xs d := by
    intro c d hc hd hSd q
    by_cases z : c - B = o2
    · rw [z, g6] at q
      have := h3 _ _ hk hSd q
      subst this
      exact hd hDk
    · exact hys _ hc.2 z (q ▸ (hh2 d hSd).1)
  refine ⟨fun b hb => ⟨(g1 b (h1 b hb).1).1, fun hba => ((g1 b (h1 b hb).1).2 (fun z => hxk (by rw [← z]; exact hb))).trans ((h1 b hb).2 hba)⟩, fun c hc => ?_, fun c d hc hd hcd => ?_, fun c hc hco => ?_, Or.inl h5, ?_, h7⟩
  · by_cases z : B ≤ c ∧ S2 (c - B)
    · simp only [if_pos z]; exact g2 _ z.2
    · have hSc := hc.resolve_right z
      have hne : xs c ≠ xs (B + o2) := fun w => z (by rw [h3 _ _ hSc hk w]; exact hDk)
      simp only [if_neg z]
      exact ⟨(g1 _ (hh2 c hSc).1).1, ((g1 _ (hh2 c hSc).1).2 hne).trans (hh2 c hSc).2⟩
  · by_cases z : B ≤ c ∧ S2 (c - B)
    · by_cases w : B ≤ d ∧ S2 (d - B)
      · simp only [if_pos z, if_pos w] at hcd
        have := g3 _ _ z.2 w.2 hcd
        omega
      · simp only [if_pos z, if_neg w] at hcd
        exact absurd hcd (ne c d z w (hd.resolve_right w))
    · by_cases w : B ≤ d ∧ S2 (d - B)
      · simp only [if_neg z, if_pos w] at hcd
        exact absurd hcd.symm (ne d c w z (hc.resolve_right z))
      · simp only [if_neg z, if_neg w] at hcd
        exact h3 _ _ (hc.resolve_right z) (hd.resolve_right w) hcd
  · by_cases z : B ≤ c ∧ S2 (c - B)
    · simp only [if_pos z]
      by_cases w : c - B = o2
      · rw [w, g6]; exact hxk
      · exact fun q => hys _ z.2 w (h1 _ q).1
    · simp only [if_neg z]
      exact h4 c (hc.resolve_right z) hco
  · simp only [if_neg hDo]; exact h6
end PONE
set_option maxHeartbeats 2000000 in
set_option maxRecDepth 20000 in
theorem cX4_copyt_c (l : Launch) {κ : pv_Kt} {L : List Nat} {f : Nat → va_E} {a : Nat} {r1 : Nat → Int32} (hL1 : a ∈ L) (hf1 : f a = .inl (κ.2.1 1, 5, .inl r1)) : pv_Mv l κ yX4_copy wsX4_copy rmX4_copy L f [.ref (κ.2.2 0), .ref a] 0 0 (fun u => u = (L, va_up f a (.inl (κ.2.1 1, 5, .inl (va_cpy pv_t0 r1 0 0 5))))) := by
  refine pv_startV (cc := cX4_copy) (maxL := 2) (ret := none) (by decide) rfl (Nat.le_of_ble_eq_true rfl) (fun A0 P0 E0 S0 M0 a9 B0 T0 C0 hC => ?_)
  have ht := hC.2.2.2.2.2.2.2.2.2.1.1.1
  refine pg_sub (vs' := [(0, .ref (κ.2.2 0)), (1, .ref a)]) [0, 1] rfl ?_
  refine pg_aload_n (pc := 0) hC dX4_copy_0 0 rfl rfl ?_
  refine pg_iconst (pc := 1) (v := 0) hC dX4_copy_1 (by decide) ?_
  refine pg_aload_n (pc := 2) hC dX4_copy_2 1 rfl rfl ?_
  refine pg_iconst (pc := 3) (v := 0) hC dX4_copy_3 (by decide) ?_
  refine pg_aload_n (pc := 4) hC dX4_copy_4 0 rfl rfl ?_
  refine pg_tlen (pc := 5) (v := 5) hC dX4_copy_5 ht (by decide) ?_
  refine pg_aload_n (pc := 6) hC dX4_copy_6 1 rfl rfl ?_
  refine pg_alen (pc := 7) (v := 5) hC dX4_copy_7 1 rfl hL1 hf1 rfl ?_
  refine pg_mmin (pc := 8) hC dX4_copy_8 (List.mem_of_getElem? (i := 1) rfl) (List.mem_of_getElem? (i := 2) rfl) (List.mem_of_getElem? (i := 3) rfl) (List.mem_of_getElem? (i := 4) rfl) (Nat.le_of_ble_eq_true rfl) (Nat.le_of_ble_eq_true rfl) (Nat.zero_le _) (Nat.zero_le _) ?_
  refine pg_top (pc := 11) (x' := nI 5) (ite_self _) ?_
  refine pg_copyt (pc := 11) hC dX4_copy_11 (List.mem_of_getElem? (i := 5) rfl) (List.mem_of_getElem? (i := 6) rfl) (List.mem_of_getElem? (i := 7) rfl) (List.mem_of_getElem? (i := 8) rfl) ht hL1 hf1 5 (by decide) (by decide) rfl (Nat.le_of_ble_eq_true rfl) (Nat.le_of_ble_eq_true rfl) ?_
  exact pg_vret (pc := 14) hC dX4_copy_14 rfl rfl
