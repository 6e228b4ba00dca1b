abbrev rmL_refuses : Room := { frames := 8, cells := 0, slots := 0, locals := 190 }
set_option maxHeartbeats 4000000 in
set_option maxRecDepth 20000 in
theorem cL_refuses_c (l : Launch) {κ : pv_Kt} {L : List Nat} {f : Nat → va_E} {x : Nat → Nat → Nat} {Z : Nat → Nat → Nat → Int32} (hok : pv_ok κ x L f Z) (n K : Nat) (h : IV (Z 0) n K) (hK : K ≤ 100) (nx kp : Nat) (hnx : Z 12 1 0 = nI nx) (hnx6 : nx < 6) (hkp : Z 12 2 0 = nI kp) (hkp6 : kp ≤ 6) (hpl : Z 9 1 0 = 0) (X : Nat) (hX : X < 2 ^ 31)  : pv_Mi l κ yL_refuses wsL_refuses rmL_refuses L f [.ref (x 12 2), .int (nI X)] 0 0 (pv_Ei κ x L (fun r Z1 => r = 1 ∧ RS Z Z1)) := by
  refine pv_startI (cc := cL_refuses) (maxL := 5) (ret := (some .boolean)) (by decide) rfl (Nat.le_of_ble_eq_true rfl) (fun A0 P0 E0 S0 M0 a0 B0 T0 C0 hC => ?_)
  refine pg_sub (vs' := [(0, .ref (x 12 2)), (1, .int (nI X))]) [0, 1] rfl ?_
  have hn := h.nn
  have hn12 := h.n12
  refine pg_aload_n (pc := 0) hC dL_refuses_0 0 rfl rfl ?_
  refine pg_callSRl (pc := 1) (As := [.ref (x 12 2)]) (rest := []) hC dL_refuses_1 (cL_seen_c l hok n hn hn12) (va_cwS 1 hC.2.2.2.2.1 gL_refuses_L_seen rfl rfl rfl (by decide +kernel) ⟨Nat.le_of_ble_eq_true rfl, Nat.le_of_ble_eq_true rfl⟩) rfl rfl (Nat.le_of_ble_eq_true rfl) (Nat.zero_le _) (Nat.zero_le _) ?_
  refine pg_lstore_n (pc := 4) (vs' := [(2, .long (sSeen (Z 0) n)), (0, .ref (x 12 2)), (1, .int (nI X))]) hC dL_refuses_4 rfl (by decide) rfl ?_
  refine pg_aload_n (pc := 5) hC dL_refuses_5 1 rfl rfl ?_
  refine pg_bipush (pc := 6) (v := 19) hC dL_refuses_6 (by decide) ?_
  refine pg_callVYi (pc := 8) (As := [.int 19]) (rest := []) (v2 := nI kp) hC dL_refuses_8 (cX4_count_c l hok n hn hn12 19 _ rfl) ((tC _ _).2.2.2.2.2.2.2.2.2.2.2.2.2.2.2.2.2.2.2.trans hkp) (cwV 1 hC.2.2.2.2.1 gL_refuses_X4_count rfl rfl rfl (by decide +kernel) ⟨Nat.le_of_ble_eq_true rfl, Nat.le_of_ble_eq_true rfl⟩) (ok_mem hok (by decide)) (ok_Xo hok) rfl rfl rfl rfl (Nat.le_of_ble_eq_true rfl) (Nat.zero_le _) (Nat.zero_le _) ?_
  refine pg_istore (pc := 11) (vs' := [(4, .int (nI kp)), (2, .long (sSeen (Z 0) n)), (0, .ref (x 12 2)), (1, .int (nI X))]) hC dL_refuses_11 (by decide) rfl ?_
  refine pg_aload_n (pc := 13) hC dL_refuses_13 2 rfl rfl ?_
  refine pg_iload_n (pc := 14) hC dL_refuses_14 3 rfl rfl ?_
  refine pg_callSEi (pc := 15) (As := [.ref (x 12 2), .int (nI X)]) (rest := []) hC dL_refuses_15 (cL_refusesAny_c l hok n K h hK nx kp hnx hnx6 hkp hkp6 hpl X hX) (va_cwS 2 hC.2.2.2.2.1 gL_refuses_L_refusesAny rfl rfl rfl (by decide +kernel) ⟨Nat.le_of_ble_eq_true rfl, Nat.le_of_ble_eq_true rfl⟩) rfl rfl (Nat.le_of_ble_eq_true rfl) (Nat.zero_le _) (Nat.zero_le _) (fun r1 f1 Z1 hok1 hph => ?_)
  obtain ⟨rfl, hRS⟩ := hph
  have e0 : Z1 0 = Z 0 := hRS.1 0 (by decide) (by decide)
  have e12 : Z1 12 = Z 12 := hRS.1 12 (by decide) (by decide)
  have hn1 : Z1 0 1 0 = nI n := by rw [e0]; exact hn
  have hkp1 : Z1 12 2 0 = nI kp := by rw [e12]; exact hkp
  refine pg_if_eq (pc := 18) hC 45 dL_refuses_18 (by decide)  (fun c1 => False.elim (absurd c1 (by decide))) (fun c1 => ?_)
  refine pg_aload_n (pc := 21) hC dL_refuses_21 2 rfl rfl ?_
  refine pg_callSRl (pc := 22) (As := [.ref (x 12 2)]) (rest := []) hC dL_refuses_22 (cL_seen_c l hok1 n hn1 hn12) (va_cwS 1 hC.2.2.2.2.1 gL_refuses_L_seen rfl rfl rfl (by decide +kernel) ⟨Nat.le_of_ble_eq_true rfl, Nat.le_of_ble_eq_true rfl⟩) rfl rfl (Nat.le_of_ble_eq_true rfl) (Nat.zero_le _) (Nat.zero_le _) ?_
  refine pg_topl (pc := 25) (x' := sSeen (Z 0) n) (by rw [e0]) ?_
  refine pg_lload_n (pc := 25) hC dL_refuses_25 1 rfl rfl ?_
  refine pg_lcmp (pc := 26) hC dL_refuses_26 ?_
  refine pg_top (pc := 27) (x' := 0) (lg_self _) ?_
  refine pg_if_ne (pc := 27) hC 45 dL_refuses_27 (by decide)  (fun c2 => False.elim (absurd c2 (by decide))) (fun c2 => ?_)
  refine pg_aload_n (pc := 30) hC dL_refuses_30 2 rfl rfl ?_
  refine pg_bipush (pc := 31) (v := 19) hC dL_refuses_31 (by decide) ?_
  refine pg_callVYi (pc := 33) (As := [.int 19]) (rest := []) (v2 := nI kp) hC dL_refuses_33 (cX4_count_c l hok1 n hn1 hn12 19 _ rfl) ((tC _ _).2.2.2.2.2.2.2.2.2.2.2.2.2.2.2.2.2.2.2.trans hkp1) (cwV 1 hC.2.2.2.2.1 gL_refuses_X4_count rfl rfl rfl (by decide +kernel) ⟨Nat.le_of_ble_eq_true rfl, Nat.le_of_ble_eq_true rfl⟩) (ok_mem hok1 (by decide)) (ok_Xo hok1) rfl rfl rfl rfl (Nat.le_of_ble_eq_true rfl) (Nat.zero_le _) (Nat.zero_le _) ?_
  refine pg_iload (pc := 36) hC dL_refuses_36 0 rfl ?_
  refine pg_icmp_neN (pc := 38) hC 45 dL_refuses_38 (by decide) (kp) (kp) rfl rfl (by omega) (by omega) (fun c3 => False.elim (c3 rfl)) (fun c3 => ?_)
  refine pg_iconst (pc := 41) (v := 1) hC dL_refuses_41 (by decide) ?_
  refine pg_goto (pc := 42) hC 46 dL_refuses_42 (by decide) ?_
  exact pg_zret (pc := 46) hC dL_refuses_46 rfl rfl ⟨rfl, _, hok1, ⟨rfl, hRS⟩⟩
