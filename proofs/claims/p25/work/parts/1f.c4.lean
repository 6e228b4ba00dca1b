abbrev rmX4_init : Room := { frames := 4, cells := 133, slots := 2294, locals := 103 }
theorem miX4_init_X0 : ∀ w ∈ wsX00, w ∈ wsX4_init := fun _ h => List.mem_cons_of_mem _ (List.mem_append_left _ (List.mem_append_left _ (List.mem_append_right _ h)))
theorem miX4_init_X1 : ∀ w ∈ wsX10, w ∈ wsX4_init := fun _ h => List.mem_cons_of_mem _ (List.mem_append_left _ (List.mem_append_right _ h))
theorem miX4_init_X2 : ∀ w ∈ wsX20, w ∈ wsX4_init := fun _ h => List.mem_cons_of_mem _ (List.mem_append_right _ h)
theorem miX4_init_X3 : ∀ w ∈ wsX30, w ∈ wsX4_init := fun _ h => List.mem_cons_of_mem _ (List.mem_append_left _ (List.mem_append_left _ (List.mem_append_left _ (List.mem_append_left _ (List.mem_append_right _ h)))))
theorem miX4_init_X4 : ∀ w ∈ wsX40, w ∈ wsX4_init := fun _ h => List.mem_cons_of_mem _ (List.mem_append_left _ (List.mem_append_left _ (List.mem_append_left _ (List.mem_append_right _ h))))
set_option maxHeartbeats 16000000 in
set_option maxRecDepth 20000 in
theorem cX4_init_c (l : Launch) {κ : pv_Kt} {L : List Nat} {f : Nat → va_E} {a : Nat} (hL : a ∈ L) (hf : f a = .inr (4, [.null, .null, .null, .null, .null, .null])) : pv_Mv l κ yX4_init wsX4_init rmX4_init L f [.ref a] 133 2294 (pv_Wn 194 L f a (SX) (EX κ)) := by
  refine pv_startV (cc := cX4_init) (maxL := 2) (ret := none) (by decide) rfl (Nat.le_of_ble_eq_true rfl) (fun A0 P0 E0 S0 M0 a0 B0 T0 C0 hC => ?_)
  refine pg_sub (vs' := [(0, .ref a)]) [0] rfl ?_
  have h0 := p1_0 194 hL hf
  refine pg_aload_n (pc := 0) hC dX4_init_0 0 rfl rfl ?_
  refine pg_objInit (pc := 1) hC dX4_init_1 (List.mem_of_getElem? (i := 1) rfl) (List.mem_of_getElem? (i := 2) rfl) (List.mem_of_getElem? (i := 3) rfl) (Nat.le_of_ble_eq_true rfl) (Nat.le_of_ble_eq_true rfl) ?_
  refine pg_aload_n (pc := 4) hC dX4_init_4 0 rfl rfl ?_
  refine pg1_new (pc := 5) (ci := 3) (fs := [.null, .int 0, .null, .null, .null, .null, .null, .null, .null, .null, .null, .null, .null, .null, .int 0]) hC h0 1 (by show ¬ (1 = 194); omega) dX4_init_5 miX4_init_X3 tyX3 tyX3_ok rfl (List.mem_of_getElem? (i := 4) rfl) (List.mem_of_getElem? (i := 5) rfl) (List.mem_of_getElem? (i := 6) rfl) (by intro j hj; rcases (show j = 0 ∨ j = 1 ∨ j = 2 ∨ j = 3 ∨ j = 4 ∨ j = 5 ∨ j = 6 ∨ j = 7 ∨ j = 8 ∨ j = 9 ∨ j = 10 ∨ j = 11 ∨ j = 12 ∨ j = 13 ∨ j = 14 by omega) with rfl | rfl | rfl | rfl | rfl | rfl | rfl | rfl | rfl | rfl | rfl | rfl | rfl | rfl | rfl <;> rfl) ⟨Nat.le_of_ble_eq_true rfl, Nat.le_of_ble_eq_true rfl⟩ (fun q1 L1 f1 h1 => ?_)
  refine pg_dup (pc := 8) hC dX4_init_8 rfl ?_
  have ha1 : q1 ∈ L1 := by have z := (p1_at h1 (k := 1) (Or.inl rfl)).1; rwa [va_up_e] at z
  have hb1 : f1 q1 = .inr (3, [.null, .int 0, .null, .null, .null, .null, .null, .null, .null, .null, .null, .null, .null, .null, .int 0]) := by have z := (p1_at h1 (k := 1) (Or.inl rfl)).2; rwa [va_up_e, va_up_e] at z
  refine pg_callIv (pc := 9) (As := []) (rest := [.ref (q1), .ref (a)]) hC dX4_init_9 (cX3_init_c l ha1 hb1) (cwI 0 hC.2.2.2.2.1 gX4_init_X3_init rfl rfl rfl (hC.2.2.2.2.1 _ (List.mem_of_getElem? (i := 6) rfl)) (hC.2.2.2.2.1 _ (List.mem_of_getElem? (i := 23) rfl)) (hC.2.2.2.2.1 _ (List.mem_of_getElem? (i := 24) rfl)) rfl (by decide +kernel) ⟨Nat.le_of_ble_eq_true rfl, Nat.le_of_ble_eq_true rfl⟩) rfl rfl (Nat.le_of_ble_eq_true rfl) ⟨Nat.le_of_ble_eq_true rfl, Nat.le_of_ble_eq_true rfl⟩ (fun u hu => ?_)
  obtain ⟨M1, g1⟩ := u
  obtain ⟨X1, hX1, hv1, hp1⟩ := p1_obj (B := 0) (o2 := 1) (S2 := (fun k => k < 14)) (F := (fun xs => pS_E κ xs (zS 10 10))) (fun xs ys h k hk => hF_S xs ys h k hk) h1 (by decide) (fun d hd z => by have hd : d < 14 := hd; have z : ((0 + d) = 194) := z; omega) hu
  refine pg1_put (pc := 12) (ty := tyX4 0) (fs := [.null, .null, .null, .null, .null, .null]) hC hp1 rfl dX4_init_12 0 miX4_init_X4 tyX4 tyX4_ok nmX4 (List.mem_of_getElem? (i := 7) rfl) rfl (by decide) rfl rfl rfl (tyX4_ok 0 (by decide)) rfl rfl (Nat.le_of_ble_eq_true rfl) (fun f2 h2 => ?_)
  refine pg_aload_n (pc := 15) hC dX4_init_15 0 rfl rfl ?_
  refine pg1_new (pc := 16) (ci := 0) (fs := [.null, .int 0, .int 0]) hC h2 192 (by show ¬ ((192 = 194) ∨ (0 ≤ 192 ∧ (192 - 0) < 14)); omega) dX4_init_16 miX4_init_X0 tyX0 tyX0_ok rfl (List.mem_of_getElem? (i := 8) rfl) (List.mem_of_getElem? (i := 9) rfl) (List.mem_of_getElem? (i := 10) rfl) (by intro j hj; rcases (show j = 0 ∨ j = 1 ∨ j = 2 by omega) with rfl | rfl | rfl <;> rfl) ⟨Nat.le_of_ble_eq_true rfl, Nat.le_of_ble_eq_true rfl⟩ (fun q3 L3 f3 h3 => ?_)
  refine pg_dup (pc := 19) hC dX4_init_19 rfl ?_
  have ha2 : q3 ∈ L3 := by have z := (p1_at h3 (k := 192) (Or.inl rfl)).1; rwa [va_up_e] at z
  have hb2 : f3 q3 = .inr (0, [.null, .int 0, .int 0]) := by have z := (p1_at h3 (k := 192) (Or.inl rfl)).2; rwa [va_up_e, va_up_e] at z
  refine pg_callIv (pc := 20) (As := []) (rest := [.ref (q3), .ref (a)]) hC dX4_init_20 (cX0_init_c l ha2 hb2) (cwI 0 hC.2.2.2.2.1 gX4_init_X0_init rfl rfl rfl (hC.2.2.2.2.1 _ (List.mem_of_getElem? (i := 10) rfl)) (hC.2.2.2.2.1 _ (List.mem_of_getElem? (i := 54) rfl)) (hC.2.2.2.2.1 _ (List.mem_of_getElem? (i := 55) rfl)) rfl (by decide +kernel) ⟨Nat.le_of_ble_eq_true rfl, Nat.le_of_ble_eq_true rfl⟩) rfl rfl (Nat.le_of_ble_eq_true rfl) ⟨Nat.le_of_ble_eq_true rfl, Nat.le_of_ble_eq_true rfl⟩ (fun u hu => ?_)
  obtain ⟨M2, g2⟩ := u
  obtain ⟨X2, hX2, hv2, hp2⟩ := p1_obj (B := 0) (o2 := 192) (S2 := (SH 6)) (F := (EH κ 6)) (fun xs ys h k hk => hF_H xs ys h k hk) h3 (by decide) (fun d hd z => by have hd : (d = 192 ∨ d = 193 ∨ (16 ≤ d ∧ d < 16 * (6 + 1) ∧ d % 16 < 14)) := hd; have z : (((0 + d) = 194) ∨ (0 ≤ (0 + d) ∧ ((0 + d) - 0) < 14)) := z; omega) hu
  refine pg1_put (pc := 23) (ty := tyX4 1) (fs := [.ref (q1), .null, .null, .null, .null, .null]) hC hp2 rfl dX4_init_23 1 miX4_init_X4 tyX4 tyX4_ok nmX4 (List.mem_of_getElem? (i := 11) rfl) rfl (by decide) rfl rfl rfl (tyX4_ok 1 (by decide)) rfl rfl (Nat.le_of_ble_eq_true rfl) (fun f4 h4 => ?_)
  refine pg_aload_n (pc := 26) hC dX4_init_26 0 rfl rfl ?_
  refine pg_iconst (pc := 27) (v := 2) hC dX4_init_27 (by decide) ?_
  refine pg1_newq (pc := 28) (N := 2) hC h4 195 (by show ¬ (((195 = 194) ∨ (0 ≤ 195 ∧ (195 - 0) < 14)) ∨ (0 ≤ 195 ∧ ((195 - 0) = 192 ∨ (195 - 0) = 193 ∨ (16 ≤ (195 - 0) ∧ (195 - 0) < 16 * (6 + 1) ∧ (195 - 0) % 16 < 14)))); omega) dX4_init_28 (List.mem_of_getElem? (i := 4) rfl) rfl (by decide) ⟨Nat.le_of_ble_eq_true rfl, Nat.le_of_ble_eq_true rfl⟩ (fun q5 L5 f5 h5 => ?_)
  obtain ⟨X3, hD3⟩ : ∃ z, z = va_up X2 195 q5 := ⟨_, rfl⟩
  rw [← hD3] at h5
  have hv3 : X3 195 = q5 := by rw [hD3, va_up_e]
  have hX3 : ∀ c, ((((c = 194) ∨ (0 ≤ c ∧ (c - 0) < 14)) ∨ (0 ≤ c ∧ ((c - 0) = 192 ∨ (c - 0) = 193 ∨ (16 ≤ (c - 0) ∧ (c - 0) < 16 * (6 + 1) ∧ (c - 0) % 16 < 14))))) → X3 c = X2 c := fun c hc => by rw [hD3, va_up_ne _ _ (by omega)]
  refine pg1_put (pc := 31) (ty := tyX4 2) (fs := [.ref (q1), .ref (q3), .null, .null, .null, .null]) hC h5 rfl dX4_init_31 2 miX4_init_X4 tyX4 tyX4_ok nmX4 (List.mem_of_getElem? (i := 12) rfl) rfl (by decide) rfl rfl rfl (tyX4_ok 2 (by decide)) rfl rfl (Nat.le_of_ble_eq_true rfl) (fun f6 h6 => ?_)
  refine pg_iconst (pc := 34) (v := 0) hC dX4_init_34 (by decide) ?_
  refine pg_istore_n (pc := 35) (vs' := [(1, .int 0), (0, .ref (a))]) hC dX4_init_35 rfl (by decide) rfl ?_
  refine pg_iload_n (pc := 36) hC dX4_init_36 0 rfl rfl ?_
  refine pg_iconst (pc := 37) (v := 2) hC dX4_init_37 (by decide) ?_
  refine pg_icmp_geN (pc := 38) hC 60 dX4_init_38 (by decide) (0) (2) rfl rfl (by decide) (by decide) (fun c1 => False.elim (absurd c1 (by decide))) (fun c1 => ?_)
  refine pg_aload_n (pc := 41) hC dX4_init_41 1 rfl rfl ?_
  refine pg1_get (pc := 42) (v := .ref (q5)) (fs := [.ref (q1), .ref (q3), .ref (q5), .null, .null, .null]) hC h6 rfl dX4_init_42 2 miX4_init_X4 (List.mem_of_getElem? (i := 12) rfl) rfl (by decide) rfl rfl ?_
  refine pg_iload_n (pc := 45) hC dX4_init_45 0 rfl rfl ?_
  refine pg1_new (pc := 46) (ci := 3) (fs := [.null, .int 0, .null, .null, .null, .null, .null, .null, .null, .null, .null, .null, .null, .null, .int 0]) hC h6 113 (by show ¬ (113 = 195 ∨ (((113 = 194) ∨ (0 ≤ 113 ∧ (113 - 0) < 14)) ∨ (0 ≤ 113 ∧ ((113 - 0) = 192 ∨ (113 - 0) = 193 ∨ (16 ≤ (113 - 0) ∧ (113 - 0) < 16 * (6 + 1) ∧ (113 - 0) % 16 < 14))))); omega) dX4_init_46 miX4_init_X3 tyX3 tyX3_ok rfl (List.mem_of_getElem? (i := 4) rfl) (List.mem_of_getElem? (i := 5) rfl) (List.mem_of_getElem? (i := 6) rfl) (by intro j hj; rcases (show j = 0 ∨ j = 1 ∨ j = 2 ∨ j = 3 ∨ j = 4 ∨ j = 5 ∨ j = 6 ∨ j = 7 ∨ j = 8 ∨ j = 9 ∨ j = 10 ∨ j = 11 ∨ j = 12 ∨ j = 13 ∨ j = 14 by omega) with rfl | rfl | rfl | rfl | rfl | rfl | rfl | rfl | rfl | rfl | rfl | rfl | rfl | rfl | rfl <;> rfl) ⟨Nat.le_of_ble_eq_true rfl, Nat.le_of_ble_eq_true rfl⟩ (fun q7 L7 f7 h7 => ?_)
  refine pg_dup (pc := 49) hC dX4_init_49 rfl ?_
  have ha4 : q7 ∈ L7 := by have z := (p1_at h7 (k := 113) (Or.inl rfl)).1; rwa [va_up_e] at z
  have hb4 : f7 q7 = .inr (3, [.null, .int 0, .null, .null, .null, .null, .null, .null, .null, .null, .null, .null, .null, .null, .int 0]) := by have z := (p1_at h7 (k := 113) (Or.inl rfl)).2; rwa [va_up_e, va_up_e] at z
  refine pg_callIv (pc := 50) (As := []) (rest := [.ref (q7), .int 0, .ref (q5)]) hC dX4_init_50 (cX3_init_c l ha4 hb4) (cwI 0 hC.2.2.2.2.1 gX4_init_X3_init rfl rfl rfl (hC.2.2.2.2.1 _ (List.mem_of_getElem? (i := 6) rfl)) (hC.2.2.2.2.1 _ (List.mem_of_getElem? (i := 23) rfl)) (hC.2.2.2.2.1 _ (List.mem_of_getElem? (i := 24) rfl)) rfl (by decide +kernel) ⟨Nat.le_of_ble_eq_true rfl, Nat.le_of_ble_eq_true rfl⟩) rfl rfl (Nat.le_of_ble_eq_true rfl) ⟨Nat.le_of_ble_eq_true rfl, Nat.le_of_ble_eq_true rfl⟩ (fun u hu => ?_)
  obtain ⟨M4, g4⟩ := u
  obtain ⟨X4, hX4, hv4, hp4⟩ := p1_obj (B := 112) (o2 := 1) (S2 := (fun k => k < 14)) (F := (fun xs => pS_E κ xs (zS 10 10))) (fun xs ys h k hk => hF_S xs ys h k hk) h7 (by decide) (fun d hd z => by have hd : d < 14 := hd; have z : ((112 + d) = 195 ∨ ((((112 + d) = 194) ∨ (0 ≤ (112 + d) ∧ ((112 + d) - 0) < 14)) ∨ (0 ≤ (112 + d) ∧ (((112 + d) - 0) = 192 ∨ ((112 + d) - 0) = 193 ∨ (16 ≤ ((112 + d) - 0) ∧ ((112 + d) - 0) < 16 * (6 + 1) ∧ ((112 + d) - 0) % 16 < 14))))) := z; omega) hu
  refine pg1_astq (pc := 53) (n := 2) (row := (fun _ => none)) (fs := pv_so (fun k => X4 (112 + k)) (zS 10 10)) hC hp4 195 113 (by show ((195 = 195 ∨ (((195 = 194) ∨ (0 ≤ 195 ∧ (195 - 0) < 14)) ∨ (0 ≤ 195 ∧ ((195 - 0) = 192 ∨ (195 - 0) = 193 ∨ (16 ≤ (195 - 0) ∧ (195 - 0) < 16 * (6 + 1) ∧ (195 - 0) % 16 < 14))))) ∨ (112 ≤ 195 ∧ (195 - 112) < 14)); omega) (by show ((113 = 195 ∨ (((113 = 194) ∨ (0 ≤ 113 ∧ (113 - 0) < 14)) ∨ (0 ≤ 113 ∧ ((113 - 0) = 192 ∨ (113 - 0) = 193 ∨ (16 ≤ (113 - 0) ∧ (113 - 0) < 16 * (6 + 1) ∧ (113 - 0) % 16 < 14))))) ∨ (112 ≤ 113 ∧ (113 - 112) < 14)); omega) rfl rfl ((hX4 195 (by show (195 = 195 ∨ (((195 = 194) ∨ (0 ≤ 195 ∧ (195 - 0) < 14)) ∨ (0 ≤ 195 ∧ ((195 - 0) = 192 ∨ (195 - 0) = 193 ∨ (16 ≤ (195 - 0) ∧ (195 - 0) < 16 * (6 + 1) ∧ (195 - 0) % 16 < 14))))); omega)).trans hv3) hv4 dX4_init_53 0 rfl (by decide) (by decide) (fun f8 h8 => ?_)
  refine pg_iinc (pc := 54) (v := 1) (vs' := [(1, .int 1), (0, .ref (a))]) hC dX4_init_54 0 rfl (by decide) (by decide) rfl ?_
  refine pg_goto (pc := 57) hC 36 dX4_init_57 (by decide) ?_
  refine pg_iload_n (pc := 36) hC dX4_init_36 0 rfl rfl ?_
  refine pg_iconst (pc := 37) (v := 2) hC dX4_init_37 (by decide) ?_
  refine pg_icmp_geN (pc := 38) hC 60 dX4_init_38 (by decide) (1) (2) rfl rfl (by decide) (by decide) (fun c2 => False.elim (absurd c2 (by decide))) (fun c2 => ?_)
  refine pg_aload_n (pc := 41) hC dX4_init_41 1 rfl rfl ?_
  refine pg1_get (pc := 42) (v := .ref (q5)) (fs := [.ref (q1), .ref (q3), .ref (q5), .null, .null, .null]) hC h8 rfl dX4_init_42 2 miX4_init_X4 (List.mem_of_getElem? (i := 12) rfl) rfl (by decide) rfl rfl ?_
  refine pg_iload_n (pc := 45) hC dX4_init_45 0 rfl rfl ?_
  refine pg1_new (pc := 46) (ci := 3) (fs := [.null, .int 0, .null, .null, .null, .null, .null, .null, .null, .null, .null, .null, .null, .null, .int 0]) hC h8 129 (by show ¬ ((129 = 195 ∨ (((129 = 194) ∨ (0 ≤ 129 ∧ (129 - 0) < 14)) ∨ (0 ≤ 129 ∧ ((129 - 0) = 192 ∨ (129 - 0) = 193 ∨ (16 ≤ (129 - 0) ∧ (129 - 0) < 16 * (6 + 1) ∧ (129 - 0) % 16 < 14))))) ∨ (112 ≤ 129 ∧ (129 - 112) < 14)); omega) dX4_init_46 miX4_init_X3 tyX3 tyX3_ok rfl (List.mem_of_getElem? (i := 4) rfl) (List.mem_of_getElem? (i := 5) rfl) (List.mem_of_getElem? (i := 6) rfl) (by intro j hj; rcases (show j = 0 ∨ j = 1 ∨ j = 2 ∨ j = 3 ∨ j = 4 ∨ j = 5 ∨ j = 6 ∨ j = 7 ∨ j = 8 ∨ j = 9 ∨ j = 10 ∨ j = 11 ∨ j = 12 ∨ j = 13 ∨ j = 14 by omega) with rfl | rfl | rfl | rfl | rfl | rfl | rfl | rfl | rfl | rfl | rfl | rfl | rfl | rfl | rfl <;> rfl) ⟨Nat.le_of_ble_eq_true rfl, Nat.le_of_ble_eq_true rfl⟩ (fun q9 L9 f9 h9 => ?_)
  refine pg_dup (pc := 49) hC dX4_init_49 rfl ?_
  have ha5 : q9 ∈ L9 := by have z := (p1_at h9 (k := 129) (Or.inl rfl)).1; rwa [va_up_e] at z
  have hb5 : f9 q9 = .inr (3, [.null, .int 0, .null, .null, .null, .null, .null, .null, .null, .null, .null, .null, .null, .null, .int 0]) := by have z := (p1_at h9 (k := 129) (Or.inl rfl)).2; rwa [va_up_e, va_up_e] at z
  refine pg_callIv (pc := 50) (As := []) (rest := [.ref (q9), .int 1, .ref (q5)]) hC dX4_init_50 (cX3_init_c l ha5 hb5) (cwI 0 hC.2.2.2.2.1 gX4_init_X3_init rfl rfl rfl (hC.2.2.2.2.1 _ (List.mem_of_getElem? (i := 6) rfl)) (hC.2.2.2.2.1 _ (List.mem_of_getElem? (i := 23) rfl)) (hC.2.2.2.2.1 _ (List.mem_of_getElem? (i := 24) rfl)) rfl (by decide +kernel) ⟨Nat.le_of_ble_eq_true rfl, Nat.le_of_ble_eq_true rfl⟩) rfl rfl (Nat.le_of_ble_eq_true rfl) ⟨Nat.le_of_ble_eq_true rfl, Nat.le_of_ble_eq_true rfl⟩ (fun u hu => ?_)
  obtain ⟨M5, g5⟩ := u
  obtain ⟨X5, hX5, hv5, hp5⟩ := p1_obj (B := 128) (o2 := 1) (S2 := (fun k => k < 14)) (F := (fun xs => pS_E κ xs (zS 10 10))) (fun xs ys h k hk => hF_S xs ys h k hk) h9 (by decide) (fun d hd z => by have hd : d < 14 := hd; have z : (((128 + d) = 195 ∨ ((((128 + d) = 194) ∨ (0 ≤ (128 + d) ∧ ((128 + d) - 0) < 14)) ∨ (0 ≤ (128 + d) ∧ (((128 + d) - 0) = 192 ∨ ((128 + d) - 0) = 193 ∨ (16 ≤ ((128 + d) - 0) ∧ ((128 + d) - 0) < 16 * (6 + 1) ∧ ((128 + d) - 0) % 16 < 14))))) ∨ (112 ≤ (128 + d) ∧ ((128 + d) - 112) < 14)) := z; omega) hu
  refine pg1_astq (pc := 53) (n := 2) (row := (va_up (fun _ => none) 0 (some q7))) (fs := pv_so (fun k => X5 (128 + k)) (zS 10 10)) hC hp5 195 129 (by show (((195 = 195 ∨ (((195 = 194) ∨ (0 ≤ 195 ∧ (195 - 0) < 14)) ∨ (0 ≤ 195 ∧ ((195 - 0) = 192 ∨ (195 - 0) = 193 ∨ (16 ≤ (195 - 0) ∧ (195 - 0) < 16 * (6 + 1) ∧ (195 - 0) % 16 < 14))))) ∨ (112 ≤ 195 ∧ (195 - 112) < 14)) ∨ (128 ≤ 195 ∧ (195 - 128) < 14)); omega) (by show (((129 = 195 ∨ (((129 = 194) ∨ (0 ≤ 129 ∧ (129 - 0) < 14)) ∨ (0 ≤ 129 ∧ ((129 - 0) = 192 ∨ (129 - 0) = 193 ∨ (16 ≤ (129 - 0) ∧ (129 - 0) < 16 * (6 + 1) ∧ (129 - 0) % 16 < 14))))) ∨ (112 ≤ 129 ∧ (129 - 112) < 14)) ∨ (128 ≤ 129 ∧ (129 - 128) < 14)); omega) rfl rfl (((hX5 195 (by show ((195 = 195 ∨ (((195 = 194) ∨ (0 ≤ 195 ∧ (195 - 0) < 14)) ∨ (0 ≤ 195 ∧ ((195 - 0) = 192 ∨ (195 - 0) = 193 ∨ (16 ≤ (195 - 0) ∧ (195 - 0) < 16 * (6 + 1) ∧ (195 - 0) % 16 < 14))))) ∨ (112 ≤ 195 ∧ (195 - 112) < 14)); omega)).trans (hX4 195 (by show (195 = 195 ∨ (((195 = 194) ∨ (0 ≤ 195 ∧ (195 - 0) < 14)) ∨ (0 ≤ 195 ∧ ((195 - 0) = 192 ∨ (195 - 0) = 193 ∨ (16 ≤ (195 - 0) ∧ (195 - 0) < 16 * (6 + 1) ∧ (195 - 0) % 16 < 14))))); omega))).trans hv3) hv5 dX4_init_53 1 rfl (by decide) (by decide) (fun f10 h10 => ?_)
  refine pg_iinc (pc := 54) (v := 2) (vs' := [(1, .int 2), (0, .ref (a))]) hC dX4_init_54 0 rfl (by decide) (by decide) rfl ?_
  refine pg_goto (pc := 57) hC 36 dX4_init_57 (by decide) ?_
  refine pg_iload_n (pc := 36) hC dX4_init_36 0 rfl rfl ?_
  refine pg_iconst (pc := 37) (v := 2) hC dX4_init_37 (by decide) ?_
  refine pg_icmp_geN (pc := 38) hC 60 dX4_init_38 (by decide) (2) (2) rfl rfl (by decide) (by decide) (fun c3 => ?_) (fun c3 => False.elim (absurd c3 (by decide)))
  refine pg_aload_n (pc := 60) hC dX4_init_60 1 rfl rfl ?_
  refine pg_iconst (pc := 61) (v := 2) hC dX4_init_61 (by decide) ?_
  refine pg1_newa (pc := 62) (N := 2) hC h10 196 (by show ¬ (((196 = 195 ∨ (((196 = 194) ∨ (0 ≤ 196 ∧ (196 - 0) < 14)) ∨ (0 ≤ 196 ∧ ((196 - 0) = 192 ∨ (196 - 0) = 193 ∨ (16 ≤ (196 - 0) ∧ (196 - 0) < 16 * (6 + 1) ∧ (196 - 0) % 16 < 14))))) ∨ (112 ≤ 196 ∧ (196 - 112) < 14)) ∨ (128 ≤ 196 ∧ (196 - 128) < 14)); omega) dX4_init_62 2 rfl rfl (Or.inr (Or.inr rfl)) (List.mem_of_getElem? (i := 13) rfl) rfl (by decide) ⟨Nat.le_of_ble_eq_true rfl, Nat.le_of_ble_eq_true rfl⟩ (fun q11 L11 f11 h11 => ?_)
  obtain ⟨X6, hD6⟩ : ∃ z, z = va_up X5 196 q11 := ⟨_, rfl⟩
  rw [← hD6] at h11
  have hv6 : X6 196 = q11 := by rw [hD6, va_up_e]
  have hX6 : ∀ c, ((((c = 195 ∨ (((c = 194) ∨ (0 ≤ c ∧ (c - 0) < 14)) ∨ (0 ≤ c ∧ ((c - 0) = 192 ∨ (c - 0) = 193 ∨ (16 ≤ (c - 0) ∧ (c - 0) < 16 * (6 + 1) ∧ (c - 0) % 16 < 14))))) ∨ (112 ≤ c ∧ (c - 112) < 14)) ∨ (128 ≤ c ∧ (c - 128) < 14))) → X6 c = X5 c := fun c hc => by rw [hD6, va_up_ne _ _ (by omega)]
  refine pg1_put (pc := 64) (ty := tyX4 3) (fs := [.ref (q1), .ref (q3), .ref (q5), .null, .null, .null]) hC h11 rfl dX4_init_64 3 miX4_init_X4 tyX4 tyX4_ok nmX4 (List.mem_of_getElem? (i := 14) rfl) rfl (by decide) rfl rfl rfl (tyX4_ok 3 (by decide)) rfl rfl (Nat.le_of_ble_eq_true rfl) (fun f12 h12 => ?_)
  refine pg_aload_n (pc := 67) hC dX4_init_67 1 rfl rfl ?_
  refine pg1_new (pc := 68) (ci := 1) (fs := [.null, .int 0]) hC h12 145 (by show ¬ (145 = 196 ∨ (((145 = 195 ∨ (((145 = 194) ∨ (0 ≤ 145 ∧ (145 - 0) < 14)) ∨ (0 ≤ 145 ∧ ((145 - 0) = 192 ∨ (145 - 0) = 193 ∨ (16 ≤ (145 - 0) ∧ (145 - 0) < 16 * (6 + 1) ∧ (145 - 0) % 16 < 14))))) ∨ (112 ≤ 145 ∧ (145 - 112) < 14)) ∨ (128 ≤ 145 ∧ (145 - 128) < 14))); omega) dX4_init_68 miX4_init_X1 tyX1 tyX1_ok rfl (List.mem_of_getElem? (i := 15) rfl) (List.mem_of_getElem? (i := 16) rfl) (List.mem_of_getElem? (i := 17) rfl) (by intro j hj; rcases (show j = 0 ∨ j = 1 by omega) with rfl | rfl <;> rfl) ⟨Nat.le_of_ble_eq_true rfl, Nat.le_of_ble_eq_true rfl⟩ (fun q13 L13 f13 h13 => ?_)
  refine pg_dup (pc := 71) hC dX4_init_71 rfl ?_
  have ha7 : q13 ∈ L13 := by have z := (p1_at h13 (k := 145) (Or.inl rfl)).1; rwa [va_up_e] at z
  have hb7 : f13 q13 = .inr (1, [.null, .int 0]) := by have z := (p1_at h13 (k := 145) (Or.inl rfl)).2; rwa [va_up_e, va_up_e] at z
  refine pg_callINv (pc := 72) (As := []) (rest := [.ref (q13), .ref (a)]) hC dX4_init_72 (cX1_init_c l ha7 hb7) ⟨va_cnB 0 hC.2.2.2.2.1 gX4_init_X1_init_n33 rfl rfl rfl hC.2.2.2.2.2.2.2.2.2.1.2.1.1 (hC.2.2.2.2.1 _ (List.mem_of_getElem? (i := 17) rfl)) (by decide +kernel) ⟨Nat.le_of_ble_eq_true rfl, Nat.le_of_ble_eq_true rfl⟩, rfl, hC.2.2.2.2.1 _ (List.mem_of_getElem? (i := 63) rfl)⟩ rfl rfl (Nat.le_of_ble_eq_true rfl) ⟨Nat.le_of_ble_eq_true rfl, Nat.le_of_ble_eq_true rfl⟩ (fun u hu => ?_)
  obtain ⟨M7, g7⟩ := u
  obtain ⟨X7, hX7, hv7, hp7⟩ := p1_obj (B := 144) (o2 := 1) (S2 := (fun k => k < 2)) (F := (EP κ)) (fun xs ys h k hk => hF_P xs ys h k hk) h13 (by decide) (fun d hd z => by have hd : d < 2 := hd; have z : ((144 + d) = 196 ∨ ((((144 + d) = 195 ∨ ((((144 + d) = 194) ∨ (0 ≤ (144 + d) ∧ ((144 + d) - 0) < 14)) ∨ (0 ≤ (144 + d) ∧ (((144 + d) - 0) = 192 ∨ ((144 + d) - 0) = 193 ∨ (16 ≤ ((144 + d) - 0) ∧ ((144 + d) - 0) < 16 * (6 + 1) ∧ ((144 + d) - 0) % 16 < 14))))) ∨ (112 ≤ (144 + d) ∧ ((144 + d) - 112) < 14)) ∨ (128 ≤ (144 + d) ∧ ((144 + d) - 128) < 14))) := z; omega) hu
  refine pg1_put (pc := 75) (ty := tyX4 4) (fs := [.ref (q1), .ref (q3), .ref (q5), .ref (q11), .null, .null]) hC hp7 rfl dX4_init_75 4 miX4_init_X4 tyX4 tyX4_ok nmX4 (List.mem_of_getElem? (i := 18) rfl) rfl (by decide) rfl rfl rfl (tyX4_ok 4 (by decide)) rfl rfl (Nat.le_of_ble_eq_true rfl) (fun f14 h14 => ?_)
  refine pg_aload_n (pc := 78) hC dX4_init_78 1 rfl rfl ?_
  refine pg1_new (pc := 79) (ci := 2) (fs := [.int 0, .int 0, .int 0, .int 0, .int 0]) hC h14 160 (by show ¬ ((160 = 196 ∨ (((160 = 195 ∨ (((160 = 194) ∨ (0 ≤ 160 ∧ (160 - 0) < 14)) ∨ (0 ≤ 160 ∧ ((160 - 0) = 192 ∨ (160 - 0) = 193 ∨ (16 ≤ (160 - 0) ∧ (160 - 0) < 16 * (6 + 1) ∧ (160 - 0) % 16 < 14))))) ∨ (112 ≤ 160 ∧ (160 - 112) < 14)) ∨ (128 ≤ 160 ∧ (160 - 128) < 14))) ∨ (144 ≤ 160 ∧ (160 - 144) < 2)); omega) dX4_init_79 miX4_init_X2 tyX2 tyX2_ok rfl (List.mem_of_getElem? (i := 19) rfl) (List.mem_of_getElem? (i := 20) rfl) (List.mem_of_getElem? (i := 21) rfl) (by intro j hj; rcases (show j = 0 ∨ j = 1 ∨ j = 2 ∨ j = 3 ∨ j = 4 by omega) with rfl | rfl | rfl | rfl | rfl <;> rfl) ⟨Nat.le_of_ble_eq_true rfl, Nat.le_of_ble_eq_true rfl⟩ (fun q15 L15 f15 h15 => ?_)
  refine pg_dup (pc := 82) hC dX4_init_82 rfl ?_
  have ha8 : q15 ∈ L15 := by have z := (p1_at h15 (k := 160) (Or.inl rfl)).1; rwa [va_up_e] at z
  have hb8 : f15 q15 = .inr (2, [.int 0, .int 0, .int 0, .int 0, .int 0]) := by have z := (p1_at h15 (k := 160) (Or.inl rfl)).2; rwa [va_up_e, va_up_e] at z
  refine pg_callINv (pc := 83) (As := []) (rest := [.ref (q15), .ref (a)]) hC dX4_init_83 (cX2_init_c l ha8 hb8) ⟨va_cnB 0 hC.2.2.2.2.1 gX4_init_X2_init_n40 rfl rfl rfl hC.2.2.2.2.2.2.2.2.2.1.2.1.2.1 (hC.2.2.2.2.1 _ (List.mem_of_getElem? (i := 21) rfl)) (by decide +kernel) ⟨Nat.le_of_ble_eq_true rfl, Nat.le_of_ble_eq_true rfl⟩, rfl, hC.2.2.2.2.1 _ (List.mem_of_getElem? (i := 69) rfl)⟩ rfl rfl (Nat.le_of_ble_eq_true rfl) ⟨Nat.le_of_ble_eq_true rfl, Nat.le_of_ble_eq_true rfl⟩ (fun u hu => ?_)
  obtain ⟨M8, g8⟩ := u
  obtain ⟨X8, hX8, hv8, hp8⟩ := p1_obj (B := 160) (o2 := 0) (S2 := (fun k => k = 0)) (F := ER) (fun xs ys h k hk => hF_R xs ys h k hk) h15 (by decide) (fun d hd z => by have hd : d = 0 := hd; have z : (((160 + d) = 196 ∨ ((((160 + d) = 195 ∨ ((((160 + d) = 194) ∨ (0 ≤ (160 + d) ∧ ((160 + d) - 0) < 14)) ∨ (0 ≤ (160 + d) ∧ (((160 + d) - 0) = 192 ∨ ((160 + d) - 0) = 193 ∨ (16 ≤ ((160 + d) - 0) ∧ ((160 + d) - 0) < 16 * (6 + 1) ∧ ((160 + d) - 0) % 16 < 14))))) ∨ (112 ≤ (160 + d) ∧ ((160 + d) - 112) < 14)) ∨ (128 ≤ (160 + d) ∧ ((160 + d) - 128) < 14))) ∨ (144 ≤ (160 + d) ∧ ((160 + d) - 144) < 2)) := z; omega) hu
  refine pg1_put (pc := 86) (ty := tyX4 5) (fs := [.ref (q1), .ref (q3), .ref (q5), .ref (q11), .ref (q13), .null]) hC hp8 rfl dX4_init_86 5 miX4_init_X4 tyX4 tyX4_ok nmX4 (List.mem_of_getElem? (i := 22) rfl) rfl (by decide) rfl rfl rfl (tyX4_ok 5 (by decide)) rfl rfl (Nat.le_of_ble_eq_true rfl) (fun f16 h16 => ?_)
  have hfin : p1 194 X8 L f a M8 f16 SX (EX κ X8) := by
    refine p1_to h16 (fun c hc => ?_) (show SX 194 by show (194 < 144 ∧ 194 % 16 < 14) ∨ 194 = 144 ∨ 194 = 145 ∨ 194 = 160 ∨ (192 ≤ 194 ∧ 194 ≤ 196); omega) (fun c hc => ?_)
    · have hc : (c < 144 ∧ c % 16 < 14) ∨ c = 144 ∨ c = 145 ∨ c = 160 ∨ (192 ≤ c ∧ c ≤ 196) := hc
      show (((c = 196 ∨ (((c = 195 ∨ (((c = 194) ∨ (0 ≤ c ∧ (c - 0) < 14)) ∨ (0 ≤ c ∧ ((c - 0) = 192 ∨ (c - 0) = 193 ∨ (16 ≤ (c - 0) ∧ (c - 0) < 16 * (6 + 1) ∧ (c - 0) % 16 < 14))))) ∨ (112 ≤ c ∧ (c - 112) < 14)) ∨ (128 ≤ c ∧ (c - 128) < 14))) ∨ (144 ≤ c ∧ (c - 144) < 2)) ∨ (160 ≤ c ∧ (c - 160) = 0))
      omega
    have hc : (c < 144 ∧ c % 16 < 14) ∨ c = 144 ∨ c = 145 ∨ c = 160 ∨ (192 ≤ c ∧ c ≤ 196) := hc
    have v1 : X8 1 = q1 := (((hX8 1 (by show ((1 = 196 ∨ (((1 = 195 ∨ (((1 = 194) ∨ (0 ≤ 1 ∧ (1 - 0) < 14)) ∨ (0 ≤ 1 ∧ ((1 - 0) = 192 ∨ (1 - 0) = 193 ∨ (16 ≤ (1 - 0) ∧ (1 - 0) < 16 * (6 + 1) ∧ (1 - 0) % 16 < 14))))) ∨ (112 ≤ 1 ∧ (1 - 112) < 14)) ∨ (128 ≤ 1 ∧ (1 - 128) < 14))) ∨ (144 ≤ 1 ∧ (1 - 144) < 2)); omega)).trans ((hX7 1 (by show (1 = 196 ∨ (((1 = 195 ∨ (((1 = 194) ∨ (0 ≤ 1 ∧ (1 - 0) < 14)) ∨ (0 ≤ 1 ∧ ((1 - 0) = 192 ∨ (1 - 0) = 193 ∨ (16 ≤ (1 - 0) ∧ (1 - 0) < 16 * (6 + 1) ∧ (1 - 0) % 16 < 14))))) ∨ (112 ≤ 1 ∧ (1 - 112) < 14)) ∨ (128 ≤ 1 ∧ (1 - 128) < 14))); omega)).trans ((hX6 1 (by show (((1 = 195 ∨ (((1 = 194) ∨ (0 ≤ 1 ∧ (1 - 0) < 14)) ∨ (0 ≤ 1 ∧ ((1 - 0) = 192 ∨ (1 - 0) = 193 ∨ (16 ≤ (1 - 0) ∧ (1 - 0) < 16 * (6 + 1) ∧ (1 - 0) % 16 < 14))))) ∨ (112 ≤ 1 ∧ (1 - 112) < 14)) ∨ (128 ≤ 1 ∧ (1 - 128) < 14)); omega)).trans ((hX5 1 (by show ((1 = 195 ∨ (((1 = 194) ∨ (0 ≤ 1 ∧ (1 - 0) < 14)) ∨ (0 ≤ 1 ∧ ((1 - 0) = 192 ∨ (1 - 0) = 193 ∨ (16 ≤ (1 - 0) ∧ (1 - 0) < 16 * (6 + 1) ∧ (1 - 0) % 16 < 14))))) ∨ (112 ≤ 1 ∧ (1 - 112) < 14)); omega)).trans ((hX4 1 (by show (1 = 195 ∨ (((1 = 194) ∨ (0 ≤ 1 ∧ (1 - 0) < 14)) ∨ (0 ≤ 1 ∧ ((1 - 0) = 192 ∨ (1 - 0) = 193 ∨ (16 ≤ (1 - 0) ∧ (1 - 0) < 16 * (6 + 1) ∧ (1 - 0) % 16 < 14))))); omega)).trans ((hX3 1 (by show (((1 = 194) ∨ (0 ≤ 1 ∧ (1 - 0) < 14)) ∨ (0 ≤ 1 ∧ ((1 - 0) = 192 ∨ (1 - 0) = 193 ∨ (16 ≤ (1 - 0) ∧ (1 - 0) < 16 * (6 + 1) ∧ (1 - 0) % 16 < 14)))); omega)).trans (hX2 1 (by show ((1 = 194) ∨ (0 ≤ 1 ∧ (1 - 0) < 14)); omega)))))))).trans hv1)
    have v192 : X8 192 = q3 := (((hX8 192 (by show ((192 = 196 ∨ (((192 = 195 ∨ (((192 = 194) ∨ (0 ≤ 192 ∧ (192 - 0) < 14)) ∨ (0 ≤ 192 ∧ ((192 - 0) = 192 ∨ (192 - 0) = 193 ∨ (16 ≤ (192 - 0) ∧ (192 - 0) < 16 * (6 + 1) ∧ (192 - 0) % 16 < 14))))) ∨ (112 ≤ 192 ∧ (192 - 112) < 14)) ∨ (128 ≤ 192 ∧ (192 - 128) < 14))) ∨ (144 ≤ 192 ∧ (192 - 144) < 2)); omega)).trans ((hX7 192 (by show (192 = 196 ∨ (((192 = 195 ∨ (((192 = 194) ∨ (0 ≤ 192 ∧ (192 - 0) < 14)) ∨ (0 ≤ 192 ∧ ((192 - 0) = 192 ∨ (192 - 0) = 193 ∨ (16 ≤ (192 - 0) ∧ (192 - 0) < 16 * (6 + 1) ∧ (192 - 0) % 16 < 14))))) ∨ (112 ≤ 192 ∧ (192 - 112) < 14)) ∨ (128 ≤ 192 ∧ (192 - 128) < 14))); omega)).trans ((hX6 192 (by show (((192 = 195 ∨ (((192 = 194) ∨ (0 ≤ 192 ∧ (192 - 0) < 14)) ∨ (0 ≤ 192 ∧ ((192 - 0) = 192 ∨ (192 - 0) = 193 ∨ (16 ≤ (192 - 0) ∧ (192 - 0) < 16 * (6 + 1) ∧ (192 - 0) % 16 < 14))))) ∨ (112 ≤ 192 ∧ (192 - 112) < 14)) ∨ (128 ≤ 192 ∧ (192 - 128) < 14)); omega)).trans ((hX5 192 (by show ((192 = 195 ∨ (((192 = 194) ∨ (0 ≤ 192 ∧ (192 - 0) < 14)) ∨ (0 ≤ 192 ∧ ((192 - 0) = 192 ∨ (192 - 0) = 193 ∨ (16 ≤ (192 - 0) ∧ (192 - 0) < 16 * (6 + 1) ∧ (192 - 0) % 16 < 14))))) ∨ (112 ≤ 192 ∧ (192 - 112) < 14)); omega)).trans ((hX4 192 (by show (192 = 195 ∨ (((192 = 194) ∨ (0 ≤ 192 ∧ (192 - 0) < 14)) ∨ (0 ≤ 192 ∧ ((192 - 0) = 192 ∨ (192 - 0) = 193 ∨ (16 ≤ (192 - 0) ∧ (192 - 0) < 16 * (6 + 1) ∧ (192 - 0) % 16 < 14))))); omega)).trans (hX3 192 (by show (((192 = 194) ∨ (0 ≤ 192 ∧ (192 - 0) < 14)) ∨ (0 ≤ 192 ∧ ((192 - 0) = 192 ∨ (192 - 0) = 193 ∨ (16 ≤ (192 - 0) ∧ (192 - 0) < 16 * (6 + 1) ∧ (192 - 0) % 16 < 14)))); omega))))))).trans hv2)
    have v195 : X8 195 = q5 := (((hX8 195 (by show ((195 = 196 ∨ (((195 = 195 ∨ (((195 = 194) ∨ (0 ≤ 195 ∧ (195 - 0) < 14)) ∨ (0 ≤ 195 ∧ ((195 - 0) = 192 ∨ (195 - 0) = 193 ∨ (16 ≤ (195 - 0) ∧ (195 - 0) < 16 * (6 + 1) ∧ (195 - 0) % 16 < 14))))) ∨ (112 ≤ 195 ∧ (195 - 112) < 14)) ∨ (128 ≤ 195 ∧ (195 - 128) < 14))) ∨ (144 ≤ 195 ∧ (195 - 144) < 2)); omega)).trans ((hX7 195 (by show (195 = 196 ∨ (((195 = 195 ∨ (((195 = 194) ∨ (0 ≤ 195 ∧ (195 - 0) < 14)) ∨ (0 ≤ 195 ∧ ((195 - 0) = 192 ∨ (195 - 0) = 193 ∨ (16 ≤ (195 - 0) ∧ (195 - 0) < 16 * (6 + 1) ∧ (195 - 0) % 16 < 14))))) ∨ (112 ≤ 195 ∧ (195 - 112) < 14)) ∨ (128 ≤ 195 ∧ (195 - 128) < 14))); omega)).trans ((hX6 195 (by show (((195 = 195 ∨ (((195 = 194) ∨ (0 ≤ 195 ∧ (195 - 0) < 14)) ∨ (0 ≤ 195 ∧ ((195 - 0) = 192 ∨ (195 - 0) = 193 ∨ (16 ≤ (195 - 0) ∧ (195 - 0) < 16 * (6 + 1) ∧ (195 - 0) % 16 < 14))))) ∨ (112 ≤ 195 ∧ (195 - 112) < 14)) ∨ (128 ≤ 195 ∧ (195 - 128) < 14)); omega)).trans ((hX5 195 (by show ((195 = 195 ∨ (((195 = 194) ∨ (0 ≤ 195 ∧ (195 - 0) < 14)) ∨ (0 ≤ 195 ∧ ((195 - 0) = 192 ∨ (195 - 0) = 193 ∨ (16 ≤ (195 - 0) ∧ (195 - 0) < 16 * (6 + 1) ∧ (195 - 0) % 16 < 14))))) ∨ (112 ≤ 195 ∧ (195 - 112) < 14)); omega)).trans (hX4 195 (by show (195 = 195 ∨ (((195 = 194) ∨ (0 ≤ 195 ∧ (195 - 0) < 14)) ∨ (0 ≤ 195 ∧ ((195 - 0) = 192 ∨ (195 - 0) = 193 ∨ (16 ≤ (195 - 0) ∧ (195 - 0) < 16 * (6 + 1) ∧ (195 - 0) % 16 < 14))))); omega)))))).trans hv3)
    have v196 : X8 196 = q11 := (((hX8 196 (by show ((196 = 196 ∨ (((196 = 195 ∨ (((196 = 194) ∨ (0 ≤ 196 ∧ (196 - 0) < 14)) ∨ (0 ≤ 196 ∧ ((196 - 0) = 192 ∨ (196 - 0) = 193 ∨ (16 ≤ (196 - 0) ∧ (196 - 0) < 16 * (6 + 1) ∧ (196 - 0) % 16 < 14))))) ∨ (112 ≤ 196 ∧ (196 - 112) < 14)) ∨ (128 ≤ 196 ∧ (196 - 128) < 14))) ∨ (144 ≤ 196 ∧ (196 - 144) < 2)); omega)).trans (hX7 196 (by show (196 = 196 ∨ (((196 = 195 ∨ (((196 = 194) ∨ (0 ≤ 196 ∧ (196 - 0) < 14)) ∨ (0 ≤ 196 ∧ ((196 - 0) = 192 ∨ (196 - 0) = 193 ∨ (16 ≤ (196 - 0) ∧ (196 - 0) < 16 * (6 + 1) ∧ (196 - 0) % 16 < 14))))) ∨ (112 ≤ 196 ∧ (196 - 112) < 14)) ∨ (128 ≤ 196 ∧ (196 - 128) < 14))); omega))).trans hv6)
    have v145 : X8 145 = q13 := ((hX8 145 (by show ((145 = 196 ∨ (((145 = 195 ∨ (((145 = 194) ∨ (0 ≤ 145 ∧ (145 - 0) < 14)) ∨ (0 ≤ 145 ∧ ((145 - 0) = 192 ∨ (145 - 0) = 193 ∨ (16 ≤ (145 - 0) ∧ (145 - 0) < 16 * (6 + 1) ∧ (145 - 0) % 16 < 14))))) ∨ (112 ≤ 145 ∧ (145 - 112) < 14)) ∨ (128 ≤ 145 ∧ (145 - 128) < 14))) ∨ (144 ≤ 145 ∧ (145 - 144) < 2)); omega)).trans hv7)
    have v160 : X8 160 = q15 := hv8
    have v113 : X8 113 = q7 := (((hX8 113 (by show ((113 = 196 ∨ (((113 = 195 ∨ (((113 = 194) ∨ (0 ≤ 113 ∧ (113 - 0) < 14)) ∨ (0 ≤ 113 ∧ ((113 - 0) = 192 ∨ (113 - 0) = 193 ∨ (16 ≤ (113 - 0) ∧ (113 - 0) < 16 * (6 + 1) ∧ (113 - 0) % 16 < 14))))) ∨ (112 ≤ 113 ∧ (113 - 112) < 14)) ∨ (128 ≤ 113 ∧ (113 - 128) < 14))) ∨ (144 ≤ 113 ∧ (113 - 144) < 2)); omega)).trans ((hX7 113 (by show (113 = 196 ∨ (((113 = 195 ∨ (((113 = 194) ∨ (0 ≤ 113 ∧ (113 - 0) < 14)) ∨ (0 ≤ 113 ∧ ((113 - 0) = 192 ∨ (113 - 0) = 193 ∨ (16 ≤ (113 - 0) ∧ (113 - 0) < 16 * (6 + 1) ∧ (113 - 0) % 16 < 14))))) ∨ (112 ≤ 113 ∧ (113 - 112) < 14)) ∨ (128 ≤ 113 ∧ (113 - 128) < 14))); omega)).trans ((hX6 113 (by show (((113 = 195 ∨ (((113 = 194) ∨ (0 ≤ 113 ∧ (113 - 0) < 14)) ∨ (0 ≤ 113 ∧ ((113 - 0) = 192 ∨ (113 - 0) = 193 ∨ (16 ≤ (113 - 0) ∧ (113 - 0) < 16 * (6 + 1) ∧ (113 - 0) % 16 < 14))))) ∨ (112 ≤ 113 ∧ (113 - 112) < 14)) ∨ (128 ≤ 113 ∧ (113 - 128) < 14)); omega)).trans (hX5 113 (by show ((113 = 195 ∨ (((113 = 194) ∨ (0 ≤ 113 ∧ (113 - 0) < 14)) ∨ (0 ≤ 113 ∧ ((113 - 0) = 192 ∨ (113 - 0) = 193 ∨ (16 ≤ (113 - 0) ∧ (113 - 0) < 16 * (6 + 1) ∧ (113 - 0) % 16 < 14))))) ∨ (112 ≤ 113 ∧ (113 - 112) < 14)); omega))))).trans hv4)
    have v129 : X8 129 = q9 := (((hX8 129 (by show ((129 = 196 ∨ (((129 = 195 ∨ (((129 = 194) ∨ (0 ≤ 129 ∧ (129 - 0) < 14)) ∨ (0 ≤ 129 ∧ ((129 - 0) = 192 ∨ (129 - 0) = 193 ∨ (16 ≤ (129 - 0) ∧ (129 - 0) < 16 * (6 + 1) ∧ (129 - 0) % 16 < 14))))) ∨ (112 ≤ 129 ∧ (129 - 112) < 14)) ∨ (128 ≤ 129 ∧ (129 - 128) < 14))) ∨ (144 ≤ 129 ∧ (129 - 144) < 2)); omega)).trans ((hX7 129 (by show (129 = 196 ∨ (((129 = 195 ∨ (((129 = 194) ∨ (0 ≤ 129 ∧ (129 - 0) < 14)) ∨ (0 ≤ 129 ∧ ((129 - 0) = 192 ∨ (129 - 0) = 193 ∨ (16 ≤ (129 - 0) ∧ (129 - 0) < 16 * (6 + 1) ∧ (129 - 0) % 16 < 14))))) ∨ (112 ≤ 129 ∧ (129 - 112) < 14)) ∨ (128 ≤ 129 ∧ (129 - 128) < 14))); omega)).trans (hX6 129 (by show (((129 = 195 ∨ (((129 = 194) ∨ (0 ≤ 129 ∧ (129 - 0) < 14)) ∨ (0 ≤ 129 ∧ ((129 - 0) = 192 ∨ (129 - 0) = 193 ∨ (16 ≤ (129 - 0) ∧ (129 - 0) < 16 * (6 + 1) ∧ (129 - 0) % 16 < 14))))) ∨ (112 ≤ 129 ∧ (129 - 112) < 14)) ∨ (128 ≤ 129 ∧ (129 - 128) < 14)); omega)))).trans hv5)
    by_cases r7 : 128 ≤ c ∧ c < 142
    · skip
      have hl : EX κ X8 c = pS_E κ (fun k => X8 (16 * (c / 16) + k)) (zS 10 10) (c % 16) := if_pos (by omega)
      rw [hl]
      simp only [va_up, SH]
      rw [if_neg (show ¬ (c = 194) by omega)]
      rw [if_neg (show ¬ (160 ≤ c ∧ c - 160 = 0) by omega)]
      rw [if_neg (show ¬ (c = 194) by omega)]
      rw [if_neg (show ¬ (144 ≤ c ∧ c - 144 < 2) by omega)]
      rw [if_neg (show ¬ (c = 194) by omega)]
      rw [if_neg (show ¬ (c = 196) by omega)]
      rw [if_neg (show ¬ (c = 195) by omega)]
      rw [if_pos (show 128 ≤ c ∧ c - 128 < 14 by omega)]
      rw [show c % 16 = c - 128 by omega]
      refine pS_E_congr (fun m hm => ?_) _
      rw [show 16 * (c / 16) + m = 128 + m by omega]
      exact ((hX8 (128 + m) (by show (((128 + m) = 196 ∨ ((((128 + m) = 195 ∨ ((((128 + m) = 194) ∨ (0 ≤ (128 + m) ∧ ((128 + m) - 0) < 14)) ∨ (0 ≤ (128 + m) ∧ (((128 + m) - 0) = 192 ∨ ((128 + m) - 0) = 193 ∨ (16 ≤ ((128 + m) - 0) ∧ ((128 + m) - 0) < 16 * (6 + 1) ∧ ((128 + m) - 0) % 16 < 14))))) ∨ (112 ≤ (128 + m) ∧ ((128 + m) - 112) < 14)) ∨ (128 ≤ (128 + m) ∧ ((128 + m) - 128) < 14))) ∨ (144 ≤ (128 + m) ∧ ((128 + m) - 144) < 2)); omega)).trans ((hX7 (128 + m) (by show ((128 + m) = 196 ∨ ((((128 + m) = 195 ∨ ((((128 + m) = 194) ∨ (0 ≤ (128 + m) ∧ ((128 + m) - 0) < 14)) ∨ (0 ≤ (128 + m) ∧ (((128 + m) - 0) = 192 ∨ ((128 + m) - 0) = 193 ∨ (16 ≤ ((128 + m) - 0) ∧ ((128 + m) - 0) < 16 * (6 + 1) ∧ ((128 + m) - 0) % 16 < 14))))) ∨ (112 ≤ (128 + m) ∧ ((128 + m) - 112) < 14)) ∨ (128 ≤ (128 + m) ∧ ((128 + m) - 128) < 14))); omega)).trans (hX6 (128 + m) (by show ((((128 + m) = 195 ∨ ((((128 + m) = 194) ∨ (0 ≤ (128 + m) ∧ ((128 + m) - 0) < 14)) ∨ (0 ≤ (128 + m) ∧ (((128 + m) - 0) = 192 ∨ ((128 + m) - 0) = 193 ∨ (16 ≤ ((128 + m) - 0) ∧ ((128 + m) - 0) < 16 * (6 + 1) ∧ ((128 + m) - 0) % 16 < 14))))) ∨ (112 ≤ (128 + m) ∧ ((128 + m) - 112) < 14)) ∨ (128 ≤ (128 + m) ∧ ((128 + m) - 128) < 14)); omega))))
    by_cases r9 : 112 ≤ c ∧ c < 126
    · skip
      have hl : EX κ X8 c = pS_E κ (fun k => X8 (16 * (c / 16) + k)) (zS 10 10) (c % 16) := if_pos (by omega)
      rw [hl]
      simp only [va_up, SH]
      rw [if_neg (show ¬ (c = 194) by omega)]
      rw [if_neg (show ¬ (160 ≤ c ∧ c - 160 = 0) by omega)]
      rw [if_neg (show ¬ (c = 194) by omega)]
      rw [if_neg (show ¬ (144 ≤ c ∧ c - 144 < 2) by omega)]
      rw [if_neg (show ¬ (c = 194) by omega)]
      rw [if_neg (show ¬ (c = 196) by omega)]
      rw [if_neg (show ¬ (c = 195) by omega)]
      rw [if_neg (show ¬ (128 ≤ c ∧ c - 128 < 14) by omega)]
      rw [if_neg (show ¬ (c = 195) by omega)]
      rw [if_pos (show 112 ≤ c ∧ c - 112 < 14 by omega)]
      rw [show c % 16 = c - 112 by omega]
      refine pS_E_congr (fun m hm => ?_) _
      rw [show 16 * (c / 16) + m = 112 + m by omega]
      exact ((hX8 (112 + m) (by show (((112 + m) = 196 ∨ ((((112 + m) = 195 ∨ ((((112 + m) = 194) ∨ (0 ≤ (112 + m) ∧ ((112 + m) - 0) < 14)) ∨ (0 ≤ (112 + m) ∧ (((112 + m) - 0) = 192 ∨ ((112 + m) - 0) = 193 ∨ (16 ≤ ((112 + m) - 0) ∧ ((112 + m) - 0) < 16 * (6 + 1) ∧ ((112 + m) - 0) % 16 < 14))))) ∨ (112 ≤ (112 + m) ∧ ((112 + m) - 112) < 14)) ∨ (128 ≤ (112 + m) ∧ ((112 + m) - 128) < 14))) ∨ (144 ≤ (112 + m) ∧ ((112 + m) - 144) < 2)); omega)).trans ((hX7 (112 + m) (by show ((112 + m) = 196 ∨ ((((112 + m) = 195 ∨ ((((112 + m) = 194) ∨ (0 ≤ (112 + m) ∧ ((112 + m) - 0) < 14)) ∨ (0 ≤ (112 + m) ∧ (((112 + m) - 0) = 192 ∨ ((112 + m) - 0) = 193 ∨ (16 ≤ ((112 + m) - 0) ∧ ((112 + m) - 0) < 16 * (6 + 1) ∧ ((112 + m) - 0) % 16 < 14))))) ∨ (112 ≤ (112 + m) ∧ ((112 + m) - 112) < 14)) ∨ (128 ≤ (112 + m) ∧ ((112 + m) - 128) < 14))); omega)).trans ((hX6 (112 + m) (by show ((((112 + m) = 195 ∨ ((((112 + m) = 194) ∨ (0 ≤ (112 + m) ∧ ((112 + m) - 0) < 14)) ∨ (0 ≤ (112 + m) ∧ (((112 + m) - 0) = 192 ∨ ((112 + m) - 0) = 193 ∨ (16 ≤ ((112 + m) - 0) ∧ ((112 + m) - 0) < 16 * (6 + 1) ∧ ((112 + m) - 0) % 16 < 14))))) ∨ (112 ≤ (112 + m) ∧ ((112 + m) - 112) < 14)) ∨ (128 ≤ (112 + m) ∧ ((112 + m) - 128) < 14)); omega)).trans (hX5 (112 + m) (by show (((112 + m) = 195 ∨ ((((112 + m) = 194) ∨ (0 ≤ (112 + m) ∧ ((112 + m) - 0) < 14)) ∨ (0 ≤ (112 + m) ∧ (((112 + m) - 0) = 192 ∨ ((112 + m) - 0) = 193 ∨ (16 ≤ ((112 + m) - 0) ∧ ((112 + m) - 0) < 16 * (6 + 1) ∧ ((112 + m) - 0) % 16 < 14))))) ∨ (112 ≤ (112 + m) ∧ ((112 + m) - 112) < 14)); omega)))))
    by_cases r13 : c = 192 ∨ c = 193 ∨ (16 ≤ c ∧ c < 112)
    · skip
      have hl : EX κ X8 c = EH κ 6 X8 c := by
        rcases (show c = 192 ∨ c = 193 ∨ c < 112 by omega) with rfl | rfl | z
        · rfl
        · rfl
        · unfold EX EH
          rw [if_pos (by omega), if_neg (by omega), if_neg (by omega)]
      rw [hl]
      simp only [va_up, SH]
      rw [if_neg (show ¬ (c = 194) by omega)]
      rw [if_neg (show ¬ (160 ≤ c ∧ c - 160 = 0) by omega)]
      rw [if_neg (show ¬ (c = 194) by omega)]
      rw [if_neg (show ¬ (144 ≤ c ∧ c - 144 < 2) by omega)]
      rw [if_neg (show ¬ (c = 194) by omega)]
      rw [if_neg (show ¬ (c = 196) by omega)]
      rw [if_neg (show ¬ (c = 195) by omega)]
      rw [if_neg (show ¬ (128 ≤ c ∧ c - 128 < 14) by omega)]
      rw [if_neg (show ¬ (c = 195) by omega)]
      rw [if_neg (show ¬ (112 ≤ c ∧ c - 112 < 14) by omega)]
      rw [if_neg (show ¬ (c = 194) by omega)]
      rw [if_neg (show ¬ (c = 195) by omega)]
      rw [if_neg (show ¬ (c = 194) by omega)]
      rw [if_pos (show 0 ≤ c ∧ ((c - 0) = 192 ∨ (c - 0) = 193 ∨ (16 ≤ (c - 0) ∧ (c - 0) < 16 * (6 + 1) ∧ (c - 0) % 16 < 14)) by omega)]
      exact hF_H _ _ (fun m hm => by
        have hm : (m = 192 ∨ m = 193 ∨ (16 ≤ m ∧ m < 16 * (6 + 1) ∧ m % 16 < 14)) := hm
        show X8 m = X2 (0 + m)
        rw [show 0 + m = m by omega]
        exact ((hX8 m (by show ((m = 196 ∨ (((m = 195 ∨ (((m = 194) ∨ (0 ≤ m ∧ (m - 0) < 14)) ∨ (0 ≤ m ∧ ((m - 0) = 192 ∨ (m - 0) = 193 ∨ (16 ≤ (m - 0) ∧ (m - 0) < 16 * (6 + 1) ∧ (m - 0) % 16 < 14))))) ∨ (112 ≤ m ∧ (m - 112) < 14)) ∨ (128 ≤ m ∧ (m - 128) < 14))) ∨ (144 ≤ m ∧ (m - 144) < 2)); omega)).trans ((hX7 m (by show (m = 196 ∨ (((m = 195 ∨ (((m = 194) ∨ (0 ≤ m ∧ (m - 0) < 14)) ∨ (0 ≤ m ∧ ((m - 0) = 192 ∨ (m - 0) = 193 ∨ (16 ≤ (m - 0) ∧ (m - 0) < 16 * (6 + 1) ∧ (m - 0) % 16 < 14))))) ∨ (112 ≤ m ∧ (m - 112) < 14)) ∨ (128 ≤ m ∧ (m - 128) < 14))); omega)).trans ((hX6 m (by show (((m = 195 ∨ (((m = 194) ∨ (0 ≤ m ∧ (m - 0) < 14)) ∨ (0 ≤ m ∧ ((m - 0) = 192 ∨ (m - 0) = 193 ∨ (16 ≤ (m - 0) ∧ (m - 0) < 16 * (6 + 1) ∧ (m - 0) % 16 < 14))))) ∨ (112 ≤ m ∧ (m - 112) < 14)) ∨ (128 ≤ m ∧ (m - 128) < 14)); omega)).trans ((hX5 m (by show ((m = 195 ∨ (((m = 194) ∨ (0 ≤ m ∧ (m - 0) < 14)) ∨ (0 ≤ m ∧ ((m - 0) = 192 ∨ (m - 0) = 193 ∨ (16 ≤ (m - 0) ∧ (m - 0) < 16 * (6 + 1) ∧ (m - 0) % 16 < 14))))) ∨ (112 ≤ m ∧ (m - 112) < 14)); omega)).trans ((hX4 m (by show (m = 195 ∨ (((m = 194) ∨ (0 ≤ m ∧ (m - 0) < 14)) ∨ (0 ≤ m ∧ ((m - 0) = 192 ∨ (m - 0) = 193 ∨ (16 ≤ (m - 0) ∧ (m - 0) < 16 * (6 + 1) ∧ (m - 0) % 16 < 14))))); omega)).trans (hX3 m (by show (((m = 194) ∨ (0 ≤ m ∧ (m - 0) < 14)) ∨ (0 ≤ m ∧ ((m - 0) = 192 ∨ (m - 0) = 193 ∨ (16 ≤ (m - 0) ∧ (m - 0) < 16 * (6 + 1) ∧ (m - 0) % 16 < 14)))); omega)))))))) c (by show (c = 192 ∨ c = 193 ∨ (16 ≤ c ∧ c < 16 * (6 + 1) ∧ c % 16 < 14)); omega)
    by_cases r15 : 0 ≤ c ∧ c < 14
    · skip
      have hl : EX κ X8 c = pS_E κ (fun k => X8 (16 * (c / 16) + k)) (zS 10 10) (c % 16) := if_pos (by omega)
      rw [hl]
      simp only [va_up, SH]
      rw [if_neg (show ¬ (c = 194) by omega)]
      rw [if_neg (show ¬ (160 ≤ c ∧ c - 160 = 0) by omega)]
      rw [if_neg (show ¬ (c = 194) by omega)]
      rw [if_neg (show ¬ (144 ≤ c ∧ c - 144 < 2) by omega)]
      rw [if_neg (show ¬ (c = 194) by omega)]
      rw [if_neg (show ¬ (c = 196) by omega)]
      rw [if_neg (show ¬ (c = 195) by omega)]
      rw [if_neg (show ¬ (128 ≤ c ∧ c - 128 < 14) by omega)]
      rw [if_neg (show ¬ (c = 195) by omega)]
      rw [if_neg (show ¬ (112 ≤ c ∧ c - 112 < 14) by omega)]
      rw [if_neg (show ¬ (c = 194) by omega)]
      rw [if_neg (show ¬ (c = 195) by omega)]
      rw [if_neg (show ¬ (c = 194) by omega)]
      rw [if_neg (show ¬ (0 ≤ c ∧ ((c - 0) = 192 ∨ (c - 0) = 193 ∨ (16 ≤ (c - 0) ∧ (c - 0) < 16 * (6 + 1) ∧ (c - 0) % 16 < 14))) by omega)]
      rw [if_neg (show ¬ (c = 194) by omega)]
      rw [if_pos (show 0 ≤ c ∧ c - 0 < 14 by omega)]
      rw [show c % 16 = c - 0 by omega]
      refine pS_E_congr (fun m hm => ?_) _
      rw [show 16 * (c / 16) + m = 0 + m by omega]
      exact ((hX8 (0 + m) (by show (((0 + m) = 196 ∨ ((((0 + m) = 195 ∨ ((((0 + m) = 194) ∨ (0 ≤ (0 + m) ∧ ((0 + m) - 0) < 14)) ∨ (0 ≤ (0 + m) ∧ (((0 + m) - 0) = 192 ∨ ((0 + m) - 0) = 193 ∨ (16 ≤ ((0 + m) - 0) ∧ ((0 + m) - 0) < 16 * (6 + 1) ∧ ((0 + m) - 0) % 16 < 14))))) ∨ (112 ≤ (0 + m) ∧ ((0 + m) - 112) < 14)) ∨ (128 ≤ (0 + m) ∧ ((0 + m) - 128) < 14))) ∨ (144 ≤ (0 + m) ∧ ((0 + m) - 144) < 2)); omega)).trans ((hX7 (0 + m) (by show ((0 + m) = 196 ∨ ((((0 + m) = 195 ∨ ((((0 + m) = 194) ∨ (0 ≤ (0 + m) ∧ ((0 + m) - 0) < 14)) ∨ (0 ≤ (0 + m) ∧ (((0 + m) - 0) = 192 ∨ ((0 + m) - 0) = 193 ∨ (16 ≤ ((0 + m) - 0) ∧ ((0 + m) - 0) < 16 * (6 + 1) ∧ ((0 + m) - 0) % 16 < 14))))) ∨ (112 ≤ (0 + m) ∧ ((0 + m) - 112) < 14)) ∨ (128 ≤ (0 + m) ∧ ((0 + m) - 128) < 14))); omega)).trans ((hX6 (0 + m) (by show ((((0 + m) = 195 ∨ ((((0 + m) = 194) ∨ (0 ≤ (0 + m) ∧ ((0 + m) - 0) < 14)) ∨ (0 ≤ (0 + m) ∧ (((0 + m) - 0) = 192 ∨ ((0 + m) - 0) = 193 ∨ (16 ≤ ((0 + m) - 0) ∧ ((0 + m) - 0) < 16 * (6 + 1) ∧ ((0 + m) - 0) % 16 < 14))))) ∨ (112 ≤ (0 + m) ∧ ((0 + m) - 112) < 14)) ∨ (128 ≤ (0 + m) ∧ ((0 + m) - 128) < 14)); omega)).trans ((hX5 (0 + m) (by show (((0 + m) = 195 ∨ ((((0 + m) = 194) ∨ (0 ≤ (0 + m) ∧ ((0 + m) - 0) < 14)) ∨ (0 ≤ (0 + m) ∧ (((0 + m) - 0) = 192 ∨ ((0 + m) - 0) = 193 ∨ (16 ≤ ((0 + m) - 0) ∧ ((0 + m) - 0) < 16 * (6 + 1) ∧ ((0 + m) - 0) % 16 < 14))))) ∨ (112 ≤ (0 + m) ∧ ((0 + m) - 112) < 14)); omega)).trans ((hX4 (0 + m) (by show ((0 + m) = 195 ∨ ((((0 + m) = 194) ∨ (0 ≤ (0 + m) ∧ ((0 + m) - 0) < 14)) ∨ (0 ≤ (0 + m) ∧ (((0 + m) - 0) = 192 ∨ ((0 + m) - 0) = 193 ∨ (16 ≤ ((0 + m) - 0) ∧ ((0 + m) - 0) < 16 * (6 + 1) ∧ ((0 + m) - 0) % 16 < 14))))); omega)).trans ((hX3 (0 + m) (by show ((((0 + m) = 194) ∨ (0 ≤ (0 + m) ∧ ((0 + m) - 0) < 14)) ∨ (0 ≤ (0 + m) ∧ (((0 + m) - 0) = 192 ∨ ((0 + m) - 0) = 193 ∨ (16 ≤ ((0 + m) - 0) ∧ ((0 + m) - 0) < 16 * (6 + 1) ∧ ((0 + m) - 0) % 16 < 14)))); omega)).trans (hX2 (0 + m) (by show (((0 + m) = 194) ∨ (0 ≤ (0 + m) ∧ ((0 + m) - 0) < 14)); omega))))))))
    rcases (show c = 144 ∨ c = 145 ∨ c = 160 ∨ c = 194 ∨ c = 195 ∨ c = 196 by omega) with rfl | rfl | rfl | rfl | rfl | rfl
    · rfl
    · show (Sum.inr (1, [.ref (X8 144), .int 0]) : va_E) = .inr (1, [.ref (X7 (144 + 0)), .int 0])
      rw [show X8 144 = X7 (144 + 0) from (hX8 144 (by show ((144 = 196 ∨ (((144 = 195 ∨ (((144 = 194) ∨ (0 ≤ 144 ∧ (144 - 0) < 14)) ∨ (0 ≤ 144 ∧ ((144 - 0) = 192 ∨ (144 - 0) = 193 ∨ (16 ≤ (144 - 0) ∧ (144 - 0) < 16 * (6 + 1) ∧ (144 - 0) % 16 < 14))))) ∨ (112 ≤ 144 ∧ (144 - 112) < 14)) ∨ (128 ≤ 144 ∧ (144 - 128) < 14))) ∨ (144 ≤ 144 ∧ (144 - 144) < 2)); omega))]
    · rfl
    · show (Sum.inr (4, [.ref (X8 1), .ref (X8 192), .ref (X8 195), .ref (X8 196), .ref (X8 145), .ref (X8 160)]) : va_E) = _
      rw [v1, v192, v195, v196, v145, v160]
      rfl
    · show (Sum.inl (κ.2.1 3, 2, .inr (.inr (.inr (.inr (rowX X8))))) : va_E) = .inl (κ.2.1 3, 2, .inr (.inr (.inr (.inr (va_up (va_up (fun _ => none) 0 (some q7)) 1 (some q9))))))
      have er : rowX X8 = (va_up (va_up (fun _ => none) 0 (some q7)) 1 (some q9)) := by
        funext j
        rcases (show j = 0 ∨ j = 1 ∨ 2 ≤ j by omega) with rfl | rfl | z
        · show some (X8 113) = _
          rw [v113]; rfl
        · show some (X8 129) = _
          rw [v129]; rfl
        · unfold rowX
          rw [if_neg (by omega), va_up_ne _ _ (by omega), va_up_ne _ _ (by omega)]
      rw [er]
    · rfl
  exact pg_vret (pc := 89) hC dX4_init_89 rfl ⟨_, hfin⟩
