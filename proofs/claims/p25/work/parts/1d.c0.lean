abbrev rmX0_init : Room := { frames := 3, cells := 85, slots := 1482, locals := 82 }
theorem miX0_init_X0 : ∀ w ∈ wsX00, w ∈ wsX0_init := fun _ h => List.mem_cons_of_mem _ (List.mem_append_left _ (List.mem_append_right _ h))
theorem miX0_init_X3 : ∀ w ∈ wsX30, w ∈ wsX0_init := fun _ h => List.mem_cons_of_mem _ (List.mem_append_right _ h)
set_option maxHeartbeats 8000000 in
set_option maxRecDepth 20000 in
theorem cX0_init_c (l : Launch) {κ : pv_Kt} {L : List Nat} {f : Nat → va_E} {a : Nat} (hL : a ∈ L) (hf : f a = .inr (0, [.null, .int 0, .int 0])) : pv_Mv l κ yX0_init wsX0_init rmX0_init L f [.ref a] 85 1482 (pv_Wn 192 L f a (SH 6) (EH κ 6)) := by
  refine pv_startV (cc := cX0_init) (maxL := 2) (ret := none) (by decide) rfl (Nat.le_of_ble_eq_true rfl) (fun A0 P0 E0 S0 M0 a0 B0 T0 C0 hC => ?_)
  refine pg_sub (vs' := [(0, .ref a)]) [0] rfl ?_
  have h0 := p1_0 192 hL hf
  refine pg_aload_n (pc := 0) hC dX0_init_0 0 rfl rfl ?_
  refine pg_objInit (pc := 1) hC dX0_init_1 (List.mem_of_getElem? (i := 1) rfl) (List.mem_of_getElem? (i := 2) rfl) (List.mem_of_getElem? (i := 3) rfl) (Nat.le_of_ble_eq_true rfl) (Nat.le_of_ble_eq_true rfl) ?_
  refine pg_aload_n (pc := 4) hC dX0_init_4 0 rfl rfl ?_
  refine pg_bipush (pc := 5) (v := 6) hC dX0_init_5 (by decide) ?_
  refine pg1_newq (pc := 7) (N := 6) hC h0 193 (by show ¬ (193 = 192); decide) dX0_init_7 (List.mem_of_getElem? (i := 4) rfl) rfl (by decide) ⟨Nat.le_of_ble_eq_true rfl, Nat.le_of_ble_eq_true rfl⟩ (fun q1 L1 f1 h1 => ?_)
  refine pg1_put (pc := 10) (ty := tyX0 0) (fs := [.null, .int 0, .int 0]) hC h1 rfl dX0_init_10 0 miX0_init_X0 tyX0 tyX0_ok nmX0 (List.mem_of_getElem? (i := 5) rfl) rfl (by decide) rfl rfl rfl (tyX0_ok 0 (by decide)) rfl rfl (Nat.le_of_ble_eq_true rfl) (fun f2 h2 => ?_)
  refine pg_aload_n (pc := 13) hC dX0_init_13 0 rfl rfl ?_
  refine pg_iconst (pc := 14) (v := 0) hC dX0_init_14 (by decide) ?_
  refine pg1_put (pc := 15) (ty := tyX0 1) (fs := [.ref (q1), .int 0, .int 0]) hC h2 rfl dX0_init_15 1 miX0_init_X0 tyX0 tyX0_ok nmX0 (List.mem_of_getElem? (i := 6) rfl) rfl (by decide) rfl rfl rfl (tyX0_ok 1 (by decide)) rfl rfl (Nat.le_of_ble_eq_true rfl) (fun f3 h3 => ?_)
  refine pg_aload_n (pc := 18) hC dX0_init_18 0 rfl rfl ?_
  refine pg_iconst (pc := 19) (v := 0) hC dX0_init_19 (by decide) ?_
  refine pg1_put (pc := 20) (ty := tyX0 2) (fs := [.ref (q1), .int 0, .int 0]) hC h3 rfl dX0_init_20 2 miX0_init_X0 tyX0 tyX0_ok nmX0 (List.mem_of_getElem? (i := 7) rfl) rfl (by decide) rfl rfl rfl (tyX0_ok 2 (by decide)) rfl rfl (Nat.le_of_ble_eq_true rfl) (fun f4 h4 => ?_)
  refine pg_iconst (pc := 23) (v := 0) hC dX0_init_23 (by decide) ?_
  refine pg_istore_n (pc := 24) (vs' := [(1, .int 0), (0, .ref (a))]) hC dX0_init_24 rfl (by decide) rfl ?_
  refine pg_sub (vs' := [(0, .ref (a)), (1, .int 0)]) [1, 0] rfl ?_
  obtain ⟨X, hX⟩ : ∃ z : Nat → Nat, z = (va_up (fun _ => a) 193 q1) := ⟨_, rfl⟩
  have e0 : rowH 0 X = fun _ => none := funext (fun j => if_neg (Nat.not_lt_zero j))
  have hz : p1 192 X L f a L1 f4 (SH 0) (EH κ 0 X) := by
    have hh := h4
    rw [← hX] at hh
    refine p1_to hh (fun k hk => ?_) (Or.inl rfl) (fun k hk => ?_)
    · have hk : k = 192 ∨ k = 193 ∨ (16 ≤ k ∧ k < 16 * (0 + 1) ∧ k % 16 < 14) := hk
      show k = 193 ∨ k = 192
      omega
    · have hk : k = 192 ∨ k = 193 ∨ (16 ≤ k ∧ k < 16 * (0 + 1) ∧ k % 16 < 14) := hk
      rcases (show k = 192 ∨ k = 193 by omega) with rfl | rfl
      · rw [hX]; rfl
      · show (Sum.inl (κ.2.1 3, 6, .inr (.inr (.inr (.inr (rowH 0 X))))) : va_E) = _
        rw [e0]; rfl
  refine pg_loopN (pc := 25) (σ := Nat × (Nat → Nat) × List Nat × (Nat → va_E)) (I := fun q => match q with | (i, X, M, g) => i ≤ 6 ∧ p1 192 X L f a M g (SH i) (EH κ i X)) (μ := fun q => match q with | (i, _, _, _) => 6 - i) (CE := fun q => match q with | (i, _, _, _) => 1 + 14 * i) (SL := fun q => match q with | (i, _, _, _) => 6 + 246 * i) (LL := fun q => match q with | (_, _, M, _) => M) (VS := fun q => match q with | (i, _, _, _) => [(0, .ref a), (1, .int (nI i))]) (FF := fun q => match q with | (_, _, _, g) => g) ?_ (0, X, L1, f4) ⟨by decide, hz⟩
  intro q hI ih
  obtain ⟨i, X, M, g⟩ := q
  dsimp only at hI ih ⊢
  obtain ⟨hi6, hg⟩ := hI
  refine pg_iload_n (pc := 25) hC dX0_init_25 1 rfl rfl ?_
  refine pg_bipush (pc := 26) (v := 6) hC dX0_init_26 (by decide) ?_
  refine pg_icmp_geN (pc := 28) hC 50 dX0_init_28 (by decide) (i) (6) rfl rfl (by omega) (by omega) (fun c1 => ?_) (fun c1 => ?_)
  · skip
    obtain rfl : i = 6 := by omega
    exact pg_vret (pc := 50) hC dX0_init_50 rfl ⟨X, hg⟩
  · skip
    refine pg_aload_n (pc := 31) hC dX0_init_31 0 rfl rfl ?_
    refine pg1_get (pc := 32) (v := .ref (X 193)) hC hg rfl dX0_init_32 0 miX0_init_X0 (List.mem_of_getElem? (i := 5) rfl) rfl (by decide) rfl rfl ?_
    refine pg_iload_n (pc := 35) hC dX0_init_35 1 rfl rfl ?_
    have hi : i < 6 := by omega
    refine pg1_new (pc := 36) (ci := 3) (fs := [.null, .int 0, .null, .null, .null, .null, .null, .null, .null, .null, .null, .null, .null, .null, .int 0]) hC hg (16 * (1 + i) + 1) (by show ¬ (16 * (1 + i) + 1 = 192 ∨ 16 * (1 + i) + 1 = 193 ∨ (16 ≤ 16 * (1 + i) + 1 ∧ 16 * (1 + i) + 1 < 16 * (i + 1) ∧ (16 * (1 + i) + 1) % 16 < 14)); omega) dX0_init_36 miX0_init_X3 tyX3 tyX3_ok rfl (List.mem_of_getElem? (i := 4) rfl) (List.mem_of_getElem? (i := 8) rfl) (List.mem_of_getElem? (i := 9) rfl) (by intro j hj; rcases (show j = 0 ∨ j = 1 ∨ j = 2 ∨ j = 3 ∨ j = 4 ∨ j = 5 ∨ j = 6 ∨ j = 7 ∨ j = 8 ∨ j = 9 ∨ j = 10 ∨ j = 11 ∨ j = 12 ∨ j = 13 ∨ j = 14 by omega) with rfl | rfl | rfl | rfl | rfl | rfl | rfl | rfl | rfl | rfl | rfl | rfl | rfl | rfl | rfl <;> rfl) ⟨show 1 + 14 * i + 1 ≤ 85 by omega, show 6 + 246 * i + 15 ≤ 1482 by omega⟩ (fun q L1 g1 h1 => ?_)
    refine pg_dup (pc := 39) hC dX0_init_39 rfl ?_
    have hq1 : q ∈ L1 := by have z := (p1_at h1 (k := 16 * (1 + i) + 1) (Or.inl rfl)).1; rwa [va_up_e] at z
    have hq2 : g1 q = .inr (3, [.null, .int 0, .null, .null, .null, .null, .null, .null, .null, .null, .null, .null, .null, .null, .int 0]) := by have z := (p1_at h1 (k := 16 * (1 + i) + 1) (Or.inl rfl)).2; rwa [va_up_e, va_up_e] at z
    refine pg_callIv (pc := 40) (As := []) (rest := [.ref q, .int (nI i), .ref (X 193)]) hC dX0_init_40 (cX3_init_c l hq1 hq2) (cwI 0 hC.2.2.2.2.1 gX0_init_X3_init rfl rfl rfl (hC.2.2.2.2.1 _ (List.mem_of_getElem? (i := 9) rfl)) (hC.2.2.2.2.1 _ (List.mem_of_getElem? (i := 10) rfl)) (hC.2.2.2.2.1 _ (List.mem_of_getElem? (i := 11) rfl)) rfl (by decide +kernel) ⟨Nat.le_of_ble_eq_true rfl, Nat.le_of_ble_eq_true rfl⟩) rfl rfl (Nat.le_of_ble_eq_true rfl) ⟨show 1 + 14 * i + 1 + 13 ≤ 85 by omega, show 6 + 246 * i + 15 + 231 ≤ 1482 by omega⟩ (fun u hu => ?_)
    obtain ⟨M2, g2⟩ := u
    obtain ⟨X2, hX2, hXq, hin⟩ := p1_school h1 (show 16 * (1 + i) + 1 ≠ 192 by omega) (fun d hd z => by have z : 16 * (1 + i) + d = 192 ∨ 16 * (1 + i) + d = 193 ∨ (16 ≤ 16 * (1 + i) + d ∧ 16 * (1 + i) + d < 16 * (i + 1) ∧ (16 * (1 + i) + d) % 16 < 14) := z; omega) hu
    refine pg1_astq (pc := 43) (n := 6) (row := rowH i X) hC hin 193 (16 * (1 + i) + 1) (Or.inl (Or.inr (Or.inl rfl))) (Or.inr ⟨by omega, by omega⟩) (show (if 16 * (1 + i) ≤ 193 ∧ 193 - 16 * (1 + i) < 14 then _ else EH κ i X 193) = _ by rw [if_neg (by omega)]; rfl) (show (if 16 * (1 + i) ≤ 16 * (1 + i) + 1 ∧ 16 * (1 + i) + 1 - 16 * (1 + i) < 14 then pS_E κ (fun k => X2 (16 * (1 + i) + k)) (zS 10 10) (16 * (1 + i) + 1 - 16 * (1 + i)) else _) = Sum.inr (3, pv_so (fun k => X2 (16 * (1 + i) + k)) (zS 10 10)) by rw [if_pos (by omega), show 16 * (1 + i) + 1 - 16 * (1 + i) = 1 by omega]; rfl) (hX2 193 (Or.inr (Or.inl rfl))) hXq dX0_init_43 i rfl hi (by decide) (fun g3 h3 => ?_)
    have hg3 := pH_step hi hX2 hXq h3
    refine pg_widen (k := 1 + 14 * (i + 1)) (n := 6 + 246 * (i + 1)) (by omega) (by omega) ?_
    refine pg_iinc (pc := 44) (v := nI (i + 1)) (vs' := [(1, .int (nI (i + 1))), (0, .ref (a))]) hC dX0_init_44 1 rfl (nI_add (i) 1) (by decide) rfl ?_
    refine pg_goto (pc := 47) hC 25 dX0_init_47 (by decide) ?_
    refine pg_sub (vs' := [(0, .ref (a)), (1, .int (nI (i + 1)))]) [1, 0] rfl ?_
    exact ih (i + 1, X2, M2, g3) ⟨by omega, hg3⟩ (show 6 - (i + 1) < 6 - i by omega)
