abbrev rmL_act : Room := { frames := 6, cells := 0, slots := 0, locals := 145 }
set_option maxHeartbeats 64000000 in
set_option maxRecDepth 20000 in
theorem cL_act_c (l : Launch) {κ : pv_Kt} {L : List Nat} {f : Nat → va_E} {x : Nat → Nat → Nat} {Z : Nat → Nat → Nat → Int32} (hok : pv_ok κ x L f Z) (n K : Nat) (h : IV (Z 0) n K) (hK1 : K < 100) (nx kp : Nat) (hnx : Z 12 1 0 = nI nx) (hnx6 : nx < 6) (hkp : Z 12 2 0 = nI kp) (hkp6 : kp ≤ 6) (X : Nat) (hX : X < 2 ^ 31)  : pv_Mi l κ yL_act wsL_act rmL_act L f [.ref (x 12 2), .int (nI X)] 0 0 (pv_Ei κ x L (AC Z nx kp K)) := by
  refine pv_startI (cc := cL_act) (maxL := 15) (ret := (some .int)) (by decide) rfl (Nat.le_of_ble_eq_true rfl) (fun A0 P0 E0 S0 M0 a0 B0 T0 C0 hC => ?_)
  refine pg_sub (vs' := [(0, .ref (x 12 2)), (1, .int (nI X))]) [0, 1] rfl ?_
  have hn := h.nn
  have hn12 := h.n12
  have hK : K ≤ 100 := Nat.le_of_lt hK1
  refine pg_iload_n (pc := 0) hC dL_act_0 1 rfl rfl ?_
  refine pg_bipush (pc := 1) (v := 16) hC dL_act_1 (by decide) ?_
  refine pg_irem (pc := 3) (v := nI (X % 16)) hC dL_act_3 (by decide) (pk_rem (a := X) (d := 16) (by omega) (by omega) (by omega)) ?_
  obtain ⟨hw_, hwd⟩ : ∃ v_, v_ = X % 16 := ⟨_, rfl⟩
  have hwb : hw_ < 16 := by omega
  refine pg_top (pc := 4) (x' := nI hw_) (by rw [hwd]) ?_
  refine pg_istore_n (pc := 4) (vs' := [(2, .int (nI hw_)), (0, .ref (x 12 2)), (1, .int (nI X))]) hC dL_act_4 rfl (by decide) rfl ?_
  refine pg_iload_n (pc := 5) hC dL_act_5 2 rfl rfl ?_
  refine pg_bipush (pc := 6) (v := 16) hC dL_act_6 (by decide) ?_
  refine pg_idiv (pc := 8) (v := nI (X / 16)) hC dL_act_8 (by decide) (pk_div (a := X) (d := 16) (by omega) (by omega) (by omega)) ?_
  obtain ⟨yy, hyd⟩ : ∃ v_, v_ = X / 16 := ⟨_, rfl⟩
  have hyb : yy < 2 ^ 27 := by omega
  refine pg_top (pc := 9) (x' := nI yy) (by rw [hyd]) ?_
  refine pg_istore_n (pc := 9) (vs' := [(3, .int (nI yy)), (2, .int (nI hw_)), (0, .ref (x 12 2)), (1, .int (nI X))]) hC dL_act_9 rfl (by decide) rfl ?_
  refine pg_aload_n (pc := 10) hC dL_act_10 2 rfl rfl ?_
  refine pg_iconst (pc := 11) (v := 5) hC dL_act_11 (by decide) ?_
  refine pg_callVYi (pc := 12) (As := [.int 5]) (rest := []) (v2 := nI n) hC dL_act_12 (cX4_count_c l hok n hn hn12 5 _ rfl) ((tC _ _).2.2.2.2.2.1.trans hn) (cwV 1 hC.2.2.2.2.1 gL_act_X4_count rfl rfl rfl (by decide +kernel) ⟨Nat.le_of_ble_eq_true rfl, Nat.le_of_ble_eq_true rfl⟩) (ok_mem hok (by decide)) (ok_Xo hok) rfl rfl rfl rfl (Nat.le_of_ble_eq_true rfl) (Nat.zero_le _) (Nat.zero_le _) ?_
  refine pg_istore (pc := 15) (vs' := [(4, .int (nI n)), (3, .int (nI yy)), (2, .int (nI hw_)), (0, .ref (x 12 2)), (1, .int (nI X))]) hC dL_act_15 (by decide) rfl ?_
  refine pg_iload_n (pc := 17) hC dL_act_17 2 rfl rfl ?_
  refine pg_iconst (pc := 18) (v := 2) hC dL_act_18 (by decide) ?_
  refine pg_join (pc := 19) (σ := Unit) (fun _ => True) 27 (fun _ => [(4, .int (nI n)), (3, .int (nI yy)), (2, .int (nI hw_)), (0, .ref (x 12 2)), (1, .int (nI X))]) (fun _ => []) (fun _ => f) ?_ (fun j1 => ?_)
  · skip
    intro _ _
    try dsimp only
    have hkd : yy % 5 < 5 := by omega
    have hwh1 : 1 ≤ 1 + (yy / 5) % 99 := by omega
    have hwh2 : 1 + (yy / 5) % 99 ≤ 99 := by omega
    rcases Nat.lt_or_ge n 12 with hl | hl
    · skip
      refine pg_aload_n (pc := 27) hC dL_act_27 3 rfl rfl ?_
      refine pg_iload_n (pc := 28) hC dL_act_28 1 rfl rfl ?_
      refine pg_iconst (pc := 29) (v := 5) hC dL_act_29 (by decide) ?_
      refine pg_irem (pc := 30) (v := nI (yy % 5)) hC dL_act_30 (by decide) (pk_rem (a := yy) (d := 5) (by omega) (by omega) (by omega)) ?_
      refine pg_iconst (pc := 31) (v := 1) hC dL_act_31 (by decide) ?_
      refine pg_iload_n (pc := 32) hC dL_act_32 1 rfl rfl ?_
      refine pg_iconst (pc := 33) (v := 5) hC dL_act_33 (by decide) ?_
      refine pg_idiv (pc := 34) (v := nI (yy / 5)) hC dL_act_34 (by decide) (pk_div (a := yy) (d := 5) (by omega) (by omega) (by omega)) ?_
      refine pg_bipush (pc := 35) (v := 99) hC dL_act_35 (by decide) ?_
      refine pg_irem (pc := 37) (v := nI ((yy / 5) % 99)) hC dL_act_37 (by decide) (pk_rem (a := yy / 5) (d := 99) (by omega) (by omega) (by omega)) ?_
      refine pg_iadd (pc := 38) (v := nI (1 + ((yy / 5) % 99))) hC dL_act_38 (nI_add (1) ((yy / 5) % 99)) ?_
      obtain ⟨Za, hZa⟩ : ∃ z, z = va_up (sKeep Z nx kp) 0 (sAdd (Z 0) n (nI (yy % 5)) (nI (1 + (yy / 5) % 99))) := ⟨_, rfl⟩
      have eZa : Za 0 = sAdd (Z 0) n (nI (yy % 5)) (nI (1 + (yy / 5) % 99)) := by rw [hZa, va_up_e]
      have jZa : IV (sAdd (Z 0) n (nI (yy % 5)) (nI (1 + (yy / 5) % 99))) (n + 1) (K + 1) := (IV_add h hl hkd hwh1 hwh2).mono (Nat.le_succ K)
      have iZa : IV (Za 0) (n + 1) (K + 1) := by rw [eZa]; exact jZa
      obtain ⟨q0, q1, q2, q3⟩ := ac_add2 h hK hl hkd hwh1 hwh2
      rw [← eZa] at q0 q1 q2 q3
      have hna12 := iZa.n12
      have hna := iZa.nn
      refine pg_callVXi (pc := 39) (As := [.int (nI (yy % 5)), .int (nI (1 + ((yy / 5) % 99)))]) (rest := []) (v2 := nI n) (Z3 := Za) hC dL_act_39 (cX4_add_c l hok n hn hn12 nx kp hnx hnx6 hkp hkp6 (nI (yy % 5)) (nI (1 + ((yy / 5) % 99)))) ⟨(ac_add (Z := Z) (nx := nx) (kp := kp) hl hkd hwh1 hwh2).1, (ac_add hl hkd hwh1 hwh2).2.trans hZa.symm⟩ (cwV 2 hC.2.2.2.2.1 gL_act_X4_add rfl rfl rfl (by decide +kernel) ⟨Nat.le_of_ble_eq_true rfl, Nat.le_of_ble_eq_true rfl⟩) (ok_mem hok (by decide)) (ok_Xo hok) rfl rfl rfl rfl (Nat.le_of_ble_eq_true rfl) (Nat.zero_le _) (Nat.zero_le _) (fun f1 hokw1 => ?_)
      refine pg_istore (pc := 42) (vs' := [(5, .int (nI n)), (4, .int (nI n)), (3, .int (nI yy)), (2, .int (nI hw_)), (0, .ref (x 12 2)), (1, .int (nI X))]) hC dL_act_42 (by decide) rfl ?_
      refine pg_iload (pc := 44) hC dL_act_44 1 rfl ?_
      refine pg_bipush (pc := 46) (v := 12) hC dL_act_46 (by decide) ?_
      refine pg_icmp_neN (pc := 48) hC 67 dL_act_48 (by decide) (n) (12) rfl rfl (by omega) (by omega) (fun c2 => ?_) (fun c2 => False.elim (absurd c2 (by omega)))
      refine pg_iload (pc := 67) hC dL_act_67 0 rfl ?_
      refine pg_iload (pc := 69) hC dL_act_69 1 rfl ?_
      refine pg_icmp_neN (pc := 71) hC 131 dL_act_71 (by decide) (n) (n) rfl rfl (by omega) (by omega) (fun c3 => False.elim (c3 rfl)) (fun c3 => ?_)
      refine pg_aload_n (pc := 74) hC dL_act_74 4 rfl rfl ?_
      refine pg_iload (pc := 75) hC dL_act_75 0 rfl ?_
      refine pg_iconst (pc := 77) (v := 0) hC dL_act_77 (by decide) ?_
      refine pg_callVYi (pc := 78) (As := [.int (nI n), .int 0]) (rest := []) (v2 := nI (yy % 5)) hC dL_act_78 (cX4_excuse_c l hokw1 (n + 1) iZa.nn iZa.n12 (nI n) 0) ((tE0 hna hna12 (by omega)).trans q0) (cwV 2 hC.2.2.2.2.1 gL_act_X4_excuse rfl rfl rfl (by decide +kernel) ⟨Nat.le_of_ble_eq_true rfl, Nat.le_of_ble_eq_true rfl⟩) (ok_mem hokw1 (by decide)) (ok_Xo hokw1) rfl rfl rfl rfl (Nat.le_of_ble_eq_true rfl) (Nat.zero_le _) (Nat.zero_le _) ?_
      refine pg_iload_n (pc := 81) hC dL_act_81 2 rfl rfl ?_
      refine pg_iconst (pc := 82) (v := 5) hC dL_act_82 (by decide) ?_
      refine pg_irem (pc := 83) (v := nI (yy % 5)) hC dL_act_83 (by decide) (pk_rem (a := yy) (d := 5) (by omega) (by omega) (by omega)) ?_
      refine pg_icmp_neN (pc := 84) hC 131 dL_act_84 (by decide) (yy % 5) (yy % 5) rfl rfl (by omega) (by omega) (fun c4 => False.elim (c4 rfl)) (fun c4 => ?_)
      refine pg_aload_n (pc := 87) hC dL_act_87 4 rfl rfl ?_
      refine pg_iload (pc := 88) hC dL_act_88 0 rfl ?_
      refine pg_iconst (pc := 90) (v := 1) hC dL_act_90 (by decide) ?_
      refine pg_callVYi (pc := 91) (As := [.int (nI n), .int 1]) (rest := []) (v2 := nI (1 + ((yy / 5) % 99))) hC dL_act_91 (cX4_excuse_c l hokw1 (n + 1) iZa.nn iZa.n12 (nI n) 1) ((tE1 hna hna12 (by omega)).trans q1) (cwV 2 hC.2.2.2.2.1 gL_act_X4_excuse rfl rfl rfl (by decide +kernel) ⟨Nat.le_of_ble_eq_true rfl, Nat.le_of_ble_eq_true rfl⟩) (ok_mem hokw1 (by decide)) (ok_Xo hokw1) rfl rfl rfl rfl (Nat.le_of_ble_eq_true rfl) (Nat.zero_le _) (Nat.zero_le _) ?_
      refine pg_iconst (pc := 94) (v := 1) hC dL_act_94 (by decide) ?_
      refine pg_iload_n (pc := 95) hC dL_act_95 2 rfl rfl ?_
      refine pg_iconst (pc := 96) (v := 5) hC dL_act_96 (by decide) ?_
      refine pg_idiv (pc := 97) (v := nI (yy / 5)) hC dL_act_97 (by decide) (pk_div (a := yy) (d := 5) (by omega) (by omega) (by omega)) ?_
      refine pg_bipush (pc := 98) (v := 99) hC dL_act_98 (by decide) ?_
      refine pg_irem (pc := 100) (v := nI ((yy / 5) % 99)) hC dL_act_100 (by decide) (pk_rem (a := yy / 5) (d := 99) (by omega) (by omega) (by omega)) ?_
      refine pg_iadd (pc := 101) (v := nI (1 + ((yy / 5) % 99))) hC dL_act_101 (nI_add (1) ((yy / 5) % 99)) ?_
      refine pg_icmp_neN (pc := 102) hC 131 dL_act_102 (by decide) (1 + ((yy / 5) % 99)) (1 + ((yy / 5) % 99)) rfl rfl (by omega) (by omega) (fun c5 => False.elim (c5 rfl)) (fun c5 => ?_)
      refine pg_aload_n (pc := 105) hC dL_act_105 4 rfl rfl ?_
      refine pg_iload (pc := 106) hC dL_act_106 0 rfl ?_
      refine pg_iconst (pc := 108) (v := 2) hC dL_act_108 (by decide) ?_
      refine pg_callVYi (pc := 109) (As := [.int (nI n), .int 2]) (rest := []) (v2 := 0) hC dL_act_109 (cX4_excuse_c l hokw1 (n + 1) iZa.nn iZa.n12 (nI n) 2) ((tE2 hna hna12 (by omega)).trans q2) (cwV 2 hC.2.2.2.2.1 gL_act_X4_excuse rfl rfl rfl (by decide +kernel) ⟨Nat.le_of_ble_eq_true rfl, Nat.le_of_ble_eq_true rfl⟩) (ok_mem hokw1 (by decide)) (ok_Xo hokw1) rfl rfl rfl rfl (Nat.le_of_ble_eq_true rfl) (Nat.zero_le _) (Nat.zero_le _) ?_
      refine pg_if_ne (pc := 112) hC 131 dL_act_112 (by decide)  (fun c6 => False.elim (absurd c6 (by decide))) (fun c6 => ?_)
      refine pg_aload_n (pc := 115) hC dL_act_115 4 rfl rfl ?_
      refine pg_iconst (pc := 116) (v := 0) hC dL_act_116 (by decide) ?_
      refine pg_iload (pc := 117) hC dL_act_117 0 rfl ?_
      refine pg_callVYi (pc := 119) (As := [.int 0, .int (nI n)]) (rest := []) (v2 := 100) hC dL_act_119 (cX4_novelty_c l hokw1 (n + 1) iZa.nn iZa.n12 0 (nI n)) ((tNv (p := 0) hna hna12 (by decide) (by omega)).trans q3) (cwV 2 hC.2.2.2.2.1 gL_act_X4_novelty rfl rfl rfl (by decide +kernel) ⟨Nat.le_of_ble_eq_true rfl, Nat.le_of_ble_eq_true rfl⟩) (ok_mem hokw1 (by decide)) (ok_Xo hokw1) rfl rfl rfl rfl (Nat.le_of_ble_eq_true rfl) (Nat.zero_le _) (Nat.zero_le _) ?_
      refine pg_bipush (pc := 122) (v := 100) hC dL_act_122 (by decide) ?_
      refine pg_icmp_neN (pc := 124) hC 131 dL_act_124 (by decide) (100) (100) rfl rfl (by omega) (by omega) (fun c7 => False.elim (c7 rfl)) (fun c7 => ?_)
      refine pg_iconst (pc := 127) (v := 1) hC dL_act_127 (by decide) ?_
      refine pg_goto (pc := 128) hC 133 dL_act_128 (by decide) ?_
      exact pg_iret (pc := 133) hC dL_act_133 rfl ⟨rfl, _, hokw1, Or.inr ⟨rfl, _, _, hZa, jZa⟩⟩
    · skip
      refine pg_aload_n (pc := 27) hC dL_act_27 3 rfl rfl ?_
      refine pg_iload_n (pc := 28) hC dL_act_28 1 rfl rfl ?_
      refine pg_iconst (pc := 29) (v := 5) hC dL_act_29 (by decide) ?_
      refine pg_irem (pc := 30) (v := nI (yy % 5)) hC dL_act_30 (by decide) (pk_rem (a := yy) (d := 5) (by omega) (by omega) (by omega)) ?_
      refine pg_iconst (pc := 31) (v := 1) hC dL_act_31 (by decide) ?_
      refine pg_iload_n (pc := 32) hC dL_act_32 1 rfl rfl ?_
      refine pg_iconst (pc := 33) (v := 5) hC dL_act_33 (by decide) ?_
      refine pg_idiv (pc := 34) (v := nI (yy / 5)) hC dL_act_34 (by decide) (pk_div (a := yy) (d := 5) (by omega) (by omega) (by omega)) ?_
      refine pg_bipush (pc := 35) (v := 99) hC dL_act_35 (by decide) ?_
      refine pg_irem (pc := 37) (v := nI ((yy / 5) % 99)) hC dL_act_37 (by decide) (pk_rem (a := yy / 5) (d := 99) (by omega) (by omega) (by omega)) ?_
      refine pg_iadd (pc := 38) (v := nI (1 + ((yy / 5) % 99))) hC dL_act_38 (nI_add (1) ((yy / 5) % 99)) ?_
      refine pg_callVXi (pc := 39) (As := [.int (nI (yy % 5)), .int (nI (1 + ((yy / 5) % 99)))]) (rest := []) (v2 := (-4)) (Z3 := Z) hC dL_act_39 (cX4_add_c l hok n hn hn12 nx kp hnx hnx6 hkp hkp6 (nI (yy % 5)) (nI (1 + ((yy / 5) % 99)))) ⟨(rf_add2 (Z := Z) (nx := nx) (kp := kp) (by omega)).1.trans (by rw [if_neg (show ¬ bW (nI (yy % 5)) 0 4 = 0 from bW_in (lo := 0) (hi := 4) (Nat.zero_le _) (by omega) (by decide)), if_neg (show ¬ bW (nI (1 + (yy / 5) % 99)) 1 99 = 0 from bW_in (lo := 1) (hi := 99) hwh1 hwh2 (by decide))]), (rf_add2 (by omega)).2⟩ (cwV 2 hC.2.2.2.2.1 gL_act_X4_add rfl rfl rfl (by decide +kernel) ⟨Nat.le_of_ble_eq_true rfl, Nat.le_of_ble_eq_true rfl⟩) (ok_mem hok (by decide)) (ok_Xo hok) rfl rfl rfl rfl (Nat.le_of_ble_eq_true rfl) (Nat.zero_le _) (Nat.zero_le _) (fun f2 hokw2 => ?_)
      refine pg_istore (pc := 42) (vs' := [(5, .int (-4)), (4, .int (nI n)), (3, .int (nI yy)), (2, .int (nI hw_)), (0, .ref (x 12 2)), (1, .int (nI X))]) hC dL_act_42 (by decide) rfl ?_
      refine pg_iload (pc := 44) hC dL_act_44 1 rfl ?_
      refine pg_bipush (pc := 46) (v := 12) hC dL_act_46 (by decide) ?_
      refine pg_icmp_neN (pc := 48) hC 67 dL_act_48 (by decide) (n) (12) rfl rfl (by omega) (by omega) (fun c8 => False.elim (c8 (by omega))) (fun c8 => ?_)
      refine pg_iload (pc := 51) hC dL_act_51 0 rfl ?_
      refine pg_bipush (pc := 53) (v := (-4)) hC dL_act_53 (by decide) ?_
      refine pg_icmp_ne (pc := 55) hC 62 dL_act_55 (by decide)  (fun c9 => False.elim (c9 rfl)) (fun c9 => ?_)
      refine pg_iconst (pc := 58) (v := 0) hC dL_act_58 (by decide) ?_
      refine pg_goto (pc := 59) hC 133 dL_act_59 (by decide) ?_
      exact pg_iret (pc := 133) hC dL_act_133 rfl ⟨rfl, _, hokw2, Or.inl ⟨rfl, rfl⟩⟩
  refine pg_icmp_ltN (pc := 19) hC 27 dL_act_19 (by decide) (hw_) (2) rfl rfl (by omega) (by omega) (fun c10 => ?_) (fun c10 => ?_)
  · skip
    exact j1 () trivial
  · skip
    refine pg_iload (pc := 22) hC dL_act_22 0 rfl ?_
    refine pg_if_ne (pc := 24) hC 134 dL_act_24 (by decide)  (fun c11 => ?_) (fun c11 => ?_)
    · skip
      have hn0 : 0 < n := Nat.pos_of_ne_zero (fun q => c11 (by subst q; rfl))
      refine pg_iload_n (pc := 134) hC dL_act_134 1 rfl rfl ?_
      refine pg_iload (pc := 135) hC dL_act_135 0 rfl ?_
      obtain ⟨ex_, hexd⟩ : ∃ v_, v_ = yy % n := ⟨_, rfl⟩
      have hex : ex_ < n := by rw [hexd]; exact Nat.mod_lt _ hn0
      have hex12 : ex_ < 12 := by omega
      refine pg_irem (pc := 137) (v := nI ex_) hC dL_act_137 (fun q => absurd ((nI_z (by omega)).mp q) (by omega)) ((pk_rem (a := yy) (d := n) (by omega) hn0 (by omega)).trans (by rw [hexd])) ?_
      refine pg_istore (pc := 138) (vs' := [(5, .int (nI ex_)), (4, .int (nI n)), (3, .int (nI yy)), (2, .int (nI hw_)), (0, .ref (x 12 2)), (1, .int (nI X))]) hC dL_act_138 (by decide) rfl ?_
      refine pg_iload_n (pc := 140) hC dL_act_140 2 rfl rfl ?_
      refine pg_bipush (pc := 141) (v := 12) hC dL_act_141 (by decide) ?_
      refine pg_idiv (pc := 143) (v := nI (yy / 12)) hC dL_act_143 (by decide) (pk_div (a := yy) (d := 12) (by omega) (by omega) (by omega)) ?_
      refine pg_bipush (pc := 144) (v := 10) hC dL_act_144 (by decide) ?_
      refine pg_irem (pc := 146) (v := nI ((yy / 12) % 10)) hC dL_act_146 (by decide) (pk_rem (a := yy / 12) (d := 10) (by omega) (by omega) (by omega)) ?_
      obtain ⟨pu_, hpud⟩ : ∃ v_, v_ = (yy / 12) % 10 := ⟨_, rfl⟩
      have hpu : pu_ < 10 := by omega
      refine pg_top (pc := 147) (x' := nI pu_) (by rw [hpud]) ?_
      refine pg_istore (pc := 147) (vs' := [(6, .int (nI pu_)), (5, .int (nI ex_)), (4, .int (nI n)), (3, .int (nI yy)), (2, .int (nI hw_)), (0, .ref (x 12 2)), (1, .int (nI X))]) hC dL_act_147 (by decide) rfl ?_
      refine pg_iload_n (pc := 149) hC dL_act_149 4 rfl rfl ?_
      refine pg_bipush (pc := 150) (v := 12) hC dL_act_150 (by decide) ?_
      refine pg_icmp_geN (pc := 152) hC 433 dL_act_152 (by decide) (hw_) (12) rfl rfl (by omega) (by omega) (fun c12 => ?_) (fun c12 => ?_)
      · skip
        refine pg_iload_n (pc := 433) hC dL_act_433 4 rfl rfl ?_
        refine pg_bipush (pc := 434) (v := 12) hC dL_act_434 (by decide) ?_
        refine pg_icmp_neN (pc := 436) hC 611 dL_act_436 (by decide) (hw_) (12) rfl rfl (by omega) (by omega) (fun c13 => ?_) (fun c13 => ?_)
        · skip
          refine pg_iload_n (pc := 611) hC dL_act_611 4 rfl rfl ?_
          refine pg_bipush (pc := 612) (v := 13) hC dL_act_612 (by decide) ?_
          refine pg_icmp_neN (pc := 614) hC 768 dL_act_614 (by decide) (hw_) (13) rfl rfl (by omega) (by omega) (fun c14 => ?_) (fun c14 => ?_)
          · skip
            refine pg_iload_n (pc := 768) hC dL_act_768 4 rfl rfl ?_
            refine pg_bipush (pc := 769) (v := 14) hC dL_act_769 (by decide) ?_
            refine pg_icmp_neN (pc := 771) hC 826 dL_act_771 (by decide) (hw_) (14) rfl rfl (by omega) (by omega) (fun c15 => ?_) (fun c15 => ?_)
            · skip
              refine pg_iload_n (pc := 826) hC dL_act_826 3 rfl rfl ?_
              refine pg_iconst (pc := 827) (v := 5) hC dL_act_827 (by decide) ?_
              refine pg_irem (pc := 828) (v := nI (yy % 5)) hC dL_act_828 (by decide) (pk_rem (a := yy) (d := 5) (by omega) (by omega) (by omega)) ?_
              obtain ⟨wq_, hwqd⟩ : ∃ v_, v_ = yy % 5 := ⟨_, rfl⟩
              have hwq : wq_ < 5 := by omega
              refine pg_top (pc := 829) (x' := nI wq_) (by rw [hwqd]) ?_
              refine pg_istore (pc := 829) (vs' := [(7, .int (nI wq_)), (6, .int (nI pu_)), (5, .int (nI ex_)), (4, .int (nI n)), (3, .int (nI yy)), (2, .int (nI hw_)), (0, .ref (x 12 2)), (1, .int (nI X))]) hC dL_act_829 (by decide) rfl ?_
              refine pg_iload_n (pc := 831) hC dL_act_831 4 rfl rfl ?_
              refine pg_iconst (pc := 832) (v := 5) hC dL_act_832 (by decide) ?_
              refine pg_idiv (pc := 833) (v := nI (yy / 5)) hC dL_act_833 (by decide) (pk_div (a := yy) (d := 5) (by omega) (by omega) (by omega)) ?_
              refine pg_istore (pc := 834) (vs' := [(8, .int (nI (yy / 5))), (7, .int (nI wq_)), (6, .int (nI pu_)), (5, .int (nI ex_)), (4, .int (nI n)), (3, .int (nI yy)), (2, .int (nI hw_)), (0, .ref (x 12 2)), (1, .int (nI X))]) hC dL_act_834 (by decide) rfl ?_
              refine pg_iload (pc := 836) hC dL_act_836 1 rfl ?_
              refine pg_join (pc := 838) (σ := Nat) (fun q => match q with | vl_ => vl_ ≤ 99 ∧ ¬ bW (nI vl_) (pv_t1 wq_) (pv_t2 wq_) = 0) 904 (fun q => match q with | vl_ => [(9, .int (nI vl_)), (8, .int (nI (yy / 5))), (7, .int (nI wq_)), (6, .int (nI pu_)), (5, .int (nI ex_)), (4, .int (nI n)), (3, .int (nI yy)), (2, .int (nI hw_)), (0, .ref (x 12 2)), (1, .int (nI X))]) (fun q => match q with | vl_ => []) (fun q => match q with | vl_ => f) ?_ (fun j16 => ?_)
              · skip
                intro q hI
                obtain ⟨vl_, rfl⟩ : ∃ z, z = q := ⟨_, rfl⟩
                try dsimp only
                obtain ⟨hvb, hvl⟩ : vl_ ≤ 99 ∧ ¬ bW (nI vl_) (pv_t1 wq_) (pv_t2 wq_) = 0 := hI
                refine pg_aload_n (pc := 904) hC dL_act_904 8 rfl rfl ?_
                refine pg_iload (pc := 905) hC dL_act_905 2 rfl ?_
                refine pg_callVYi (pc := 907) (As := [.int (nI wq_)]) (rest := []) (v2 := Z 0 0 wq_) hC dL_act_907 (cX4_count_c l hok n hn hn12 (nI wq_) _ rfl) (ac_cnt hwq _ _) (cwV 1 hC.2.2.2.2.1 gL_act_X4_count rfl rfl rfl (by decide +kernel) ⟨Nat.le_of_ble_eq_true rfl, Nat.le_of_ble_eq_true rfl⟩) (ok_mem hok (by decide)) (ok_Xo hok) rfl rfl rfl rfl (Nat.le_of_ble_eq_true rfl) (Nat.zero_le _) (Nat.zero_le _) ?_
                refine pg_istore (pc := 910) (vs' := [(10, .int (Z 0 0 wq_)), (9, .int (nI vl_)), (8, .int (nI (yy / 5))), (7, .int (nI wq_)), (6, .int (nI pu_)), (5, .int (nI ex_)), (4, .int (nI n)), (3, .int (nI yy)), (2, .int (nI hw_)), (0, .ref (x 12 2)), (1, .int (nI X))]) hC dL_act_910 (by decide) rfl ?_
                refine pg_aload_n (pc := 912) hC dL_act_912 9 rfl rfl ?_
                refine pg_iload (pc := 913) hC dL_act_913 3 rfl ?_
                refine pg_iload (pc := 915) hC dL_act_915 1 rfl ?_
                obtain ⟨Zf, hZf⟩ : ∃ z, z = va_up (sKeep Z nx kp) 0 (zu (Z 0) 0 wq_ (nI vl_)) := ⟨_, rfl⟩
                have eZf : Zf 0 = zu (Z 0) 0 wq_ (nI vl_) := by rw [hZf, va_up_e]
                have jZf : IV (zu (Z 0) 0 wq_ (nI vl_)) (n) (K + 1) := (IV_set h hvl).mono (Nat.le_succ K)
                have iZf : IV (Zf 0) (n) (K + 1) := by rw [eZf]; exact jZf
                have y1 : Zf 0 0 wq_ = nI vl_ := by rw [eZf, zu_ee]
                refine pg_callVXi (pc := 917) (As := [.int (nI wq_), .int (nI vl_)]) (rest := []) (v2 := Z 0 0 wq_) (Z3 := Zf) hC dL_act_917 (cX4_set_c l hok nx kp hnx hnx6 hkp hkp6 (nI wq_) (nI vl_)) ⟨(ac_set (nx := nx) (kp := kp) hwq hvl).1, (ac_set hwq hvl).2.trans hZf.symm⟩ (cwV 2 hC.2.2.2.2.1 gL_act_X4_set rfl rfl rfl (by decide +kernel) ⟨Nat.le_of_ble_eq_true rfl, Nat.le_of_ble_eq_true rfl⟩) (ok_mem hok (by decide)) (ok_Xo hok) rfl rfl rfl rfl (Nat.le_of_ble_eq_true rfl) (Nat.zero_le _) (Nat.zero_le _) (fun f3 hokw3 => ?_)
                refine pg_iload (pc := 920) hC dL_act_920 0 rfl ?_
                refine pg_icmp_ne (pc := 922) hC 940 dL_act_922 (by decide)  (fun c17 => False.elim (c17 rfl)) (fun c17 => ?_)
                refine pg_aload_n (pc := 925) hC dL_act_925 9 rfl rfl ?_
                refine pg_iload (pc := 926) hC dL_act_926 3 rfl ?_
                refine pg_callVYi (pc := 928) (As := [.int (nI wq_)]) (rest := []) (v2 := nI vl_) hC dL_act_928 (cX4_count_c l hokw3 (n) iZf.nn iZf.n12 (nI wq_) _ rfl) ((ac_cnt hwq _ _).trans y1) (cwV 1 hC.2.2.2.2.1 gL_act_X4_count rfl rfl rfl (by decide +kernel) ⟨Nat.le_of_ble_eq_true rfl, Nat.le_of_ble_eq_true rfl⟩) (ok_mem hokw3 (by decide)) (ok_Xo hokw3) rfl rfl rfl rfl (Nat.le_of_ble_eq_true rfl) (Nat.zero_le _) (Nat.zero_le _) ?_
                refine pg_iload (pc := 931) hC dL_act_931 1 rfl ?_
                refine pg_icmp_neN (pc := 933) hC 940 dL_act_933 (by decide) (vl_) (vl_) rfl rfl (by omega) (by omega) (fun c18 => False.elim (c18 rfl)) (fun c18 => ?_)
                refine pg_iconst (pc := 936) (v := 1) hC dL_act_936 (by decide) ?_
                refine pg_goto (pc := 937) hC 942 dL_act_937 (by decide) ?_
                exact pg_iret (pc := 942) hC dL_act_942 rfl ⟨rfl, _, hokw3, Or.inr ⟨rfl, _, _, hZf, jZf⟩⟩
              refine pg_if_ne (pc := 838) hC 851 dL_act_838 (by decide)  (fun c19 => ?_) (fun c19 => ?_)
              · skip
                have hw1 : ¬ wq_ = 0 := fun q => c19 (by rw [q]; rfl)
                refine pg_iload (pc := 851) hC dL_act_851 1 rfl ?_
                refine pg_iconst (pc := 853) (v := 1) hC dL_act_853 (by decide) ?_
                refine pg_icmp_neN (pc := 854) hC 865 dL_act_854 (by decide) (wq_) (1) rfl rfl (by omega) (by omega) (fun c20 => ?_) (fun c20 => ?_)
                · skip
                  refine pg_iload (pc := 865) hC dL_act_865 1 rfl ?_
                  refine pg_iconst (pc := 867) (v := 2) hC dL_act_867 (by decide) ?_
                  refine pg_icmp_neN (pc := 868) hC 881 dL_act_868 (by decide) (wq_) (2) rfl rfl (by omega) (by omega) (fun c21 => ?_) (fun c21 => ?_)
                  · skip
                    refine pg_iload (pc := 881) hC dL_act_881 1 rfl ?_
                    refine pg_iconst (pc := 883) (v := 3) hC dL_act_883 (by decide) ?_
                    refine pg_icmp_neN (pc := 884) hC 897 dL_act_884 (by decide) (wq_) (3) rfl rfl (by omega) (by omega) (fun c22 => ?_) (fun c22 => ?_)
                    · skip
                      refine pg_iload (pc := 897) hC dL_act_897 0 rfl ?_
                      refine pg_bipush (pc := 899) (v := 10) hC dL_act_899 (by decide) ?_
                      refine pg_irem (pc := 901) (v := nI ((yy / 5) % 10)) hC dL_act_901 (by decide) (pk_rem (a := yy / 5) (d := 10) (by omega) (by omega) (by omega)) ?_
                      refine pg_istore (pc := 902) (vs' := [(9, .int (nI ((yy / 5) % 10))), (8, .int (nI (yy / 5))), (7, .int (nI wq_)), (6, .int (nI pu_)), (5, .int (nI ex_)), (4, .int (nI n)), (3, .int (nI yy)), (2, .int (nI hw_)), (0, .ref (x 12 2)), (1, .int (nI X))]) hC dL_act_902 (by decide) rfl ?_
                      exact j16 ((yy / 5) % 10) ⟨by omega, by rw [show wq_ = 4 by omega]; exact bW_in (lo := 0) (hi := 20) (by omega) (by omega) (by decide)⟩
                    · skip
                      refine pg_iconst (pc := 887) (v := 1) hC dL_act_887 (by decide) ?_
                      refine pg_iload (pc := 888) hC dL_act_888 0 rfl ?_
                      refine pg_bipush (pc := 890) (v := 60) hC dL_act_890 (by decide) ?_
                      refine pg_irem (pc := 892) (v := nI ((yy / 5) % 60)) hC dL_act_892 (by decide) (pk_rem (a := yy / 5) (d := 60) (by omega) (by omega) (by omega)) ?_
                      refine pg_iadd (pc := 893) (v := nI (1 + ((yy / 5) % 60))) hC dL_act_893 (nI_add (1) ((yy / 5) % 60)) ?_
                      refine pg_goto (pc := 894) hC 902 dL_act_894 (by decide) ?_
                      refine pg_istore (pc := 902) (vs' := [(9, .int (nI (1 + ((yy / 5) % 60)))), (8, .int (nI (yy / 5))), (7, .int (nI wq_)), (6, .int (nI pu_)), (5, .int (nI ex_)), (4, .int (nI n)), (3, .int (nI yy)), (2, .int (nI hw_)), (0, .ref (x 12 2)), (1, .int (nI X))]) hC dL_act_902 (by decide) rfl ?_
                      exact j16 (1 + ((yy / 5) % 60)) ⟨by omega, by rw [show wq_ = 3 by omega]; exact bW_in (lo := 1) (hi := 60) (by omega) (by omega) (by decide)⟩
                  · skip
                    refine pg_iconst (pc := 871) (v := 1) hC dL_act_871 (by decide) ?_
                    refine pg_iload (pc := 872) hC dL_act_872 0 rfl ?_
                    refine pg_bipush (pc := 874) (v := 9) hC dL_act_874 (by decide) ?_
                    refine pg_irem (pc := 876) (v := nI ((yy / 5) % 9)) hC dL_act_876 (by decide) (pk_rem (a := yy / 5) (d := 9) (by omega) (by omega) (by omega)) ?_
                    refine pg_iadd (pc := 877) (v := nI (1 + ((yy / 5) % 9))) hC dL_act_877 (nI_add (1) ((yy / 5) % 9)) ?_
                    refine pg_goto (pc := 878) hC 902 dL_act_878 (by decide) ?_
                    refine pg_istore (pc := 902) (vs' := [(9, .int (nI (1 + ((yy / 5) % 9)))), (8, .int (nI (yy / 5))), (7, .int (nI wq_)), (6, .int (nI pu_)), (5, .int (nI ex_)), (4, .int (nI n)), (3, .int (nI yy)), (2, .int (nI hw_)), (0, .ref (x 12 2)), (1, .int (nI X))]) hC dL_act_902 (by decide) rfl ?_
                    exact j16 (1 + ((yy / 5) % 9)) ⟨by omega, by rw [show wq_ = 2 by omega]; exact bW_in (lo := 1) (hi := 9) (by omega) (by omega) (by decide)⟩
                · skip
                  refine pg_iload (pc := 857) hC dL_act_857 0 rfl ?_
                  refine pg_bipush (pc := 859) (v := 31) hC dL_act_859 (by decide) ?_
                  refine pg_irem (pc := 861) (v := nI ((yy / 5) % 31)) hC dL_act_861 (by decide) (pk_rem (a := yy / 5) (d := 31) (by omega) (by omega) (by omega)) ?_
                  refine pg_goto (pc := 862) hC 902 dL_act_862 (by decide) ?_
                  refine pg_istore (pc := 902) (vs' := [(9, .int (nI ((yy / 5) % 31))), (8, .int (nI (yy / 5))), (7, .int (nI wq_)), (6, .int (nI pu_)), (5, .int (nI ex_)), (4, .int (nI n)), (3, .int (nI yy)), (2, .int (nI hw_)), (0, .ref (x 12 2)), (1, .int (nI X))]) hC dL_act_902 (by decide) rfl ?_
                  exact j16 ((yy / 5) % 31) ⟨by omega, by rw [show wq_ = 1 by omega]; exact bW_in (lo := 0) (hi := 50) (by omega) (by omega) (by decide)⟩
              · skip
                have hw0 : wq_ = 0 := (nI_z (by omega)).mp c19
                refine pg_iconst (pc := 841) (v := 1) hC dL_act_841 (by decide) ?_
                refine pg_iload (pc := 842) hC dL_act_842 0 rfl ?_
                refine pg_bipush (pc := 844) (v := 60) hC dL_act_844 (by decide) ?_
                refine pg_irem (pc := 846) (v := nI ((yy / 5) % 60)) hC dL_act_846 (by decide) (pk_rem (a := yy / 5) (d := 60) (by omega) (by omega) (by omega)) ?_
                refine pg_iadd (pc := 847) (v := nI (1 + ((yy / 5) % 60))) hC dL_act_847 (nI_add (1) ((yy / 5) % 60)) ?_
                refine pg_goto (pc := 848) hC 902 dL_act_848 (by decide) ?_
                refine pg_istore (pc := 902) (vs' := [(9, .int (nI (1 + ((yy / 5) % 60)))), (8, .int (nI (yy / 5))), (7, .int (nI wq_)), (6, .int (nI pu_)), (5, .int (nI ex_)), (4, .int (nI n)), (3, .int (nI yy)), (2, .int (nI hw_)), (0, .ref (x 12 2)), (1, .int (nI X))]) hC dL_act_902 (by decide) rfl ?_
                exact j16 (1 + ((yy / 5) % 60)) ⟨by omega, by rw [show wq_ = 0 by omega]; exact bW_in (lo := 1) (hi := 99) (by omega) (by omega) (by decide)⟩
            · skip
              refine pg_aload_n (pc := 774) hC dL_act_774 5 rfl rfl ?_
              refine pg_iload (pc := 775) hC dL_act_775 1 rfl ?_
              refine pg_iconst (pc := 777) (v := 1) hC dL_act_777 (by decide) ?_
              refine pg_callVYi (pc := 778) (As := [.int (nI ex_), .int 1]) (rest := []) (v2 := Z 0 3 ex_) hC dL_act_778 (cX4_excuse_c l hok n hn hn12 (nI ex_) 1) (tE1 hn (by omega) (by omega)) (cwV 2 hC.2.2.2.2.1 gL_act_X4_excuse rfl rfl rfl (by decide +kernel) ⟨Nat.le_of_ble_eq_true rfl, Nat.le_of_ble_eq_true rfl⟩) (ok_mem hok (by decide)) (ok_Xo hok) rfl rfl rfl rfl (Nat.le_of_ble_eq_true rfl) (Nat.zero_le _) (Nat.zero_le _) ?_
              refine pg_istore (pc := 781) (vs' := [(7, .int (Z 0 3 ex_)), (6, .int (nI pu_)), (5, .int (nI ex_)), (4, .int (nI n)), (3, .int (nI yy)), (2, .int (nI hw_)), (0, .ref (x 12 2)), (1, .int (nI X))]) hC dL_act_781 (by decide) rfl ?_
              refine pg_iconst (pc := 783) (v := 1) hC dL_act_783 (by decide) ?_
              refine pg_iload_n (pc := 784) hC dL_act_784 4 rfl rfl ?_
              refine pg_bipush (pc := 785) (v := 12) hC dL_act_785 (by decide) ?_
              refine pg_idiv (pc := 787) (v := nI (yy / 12)) hC dL_act_787 (by decide) (pk_div (a := yy) (d := 12) (by omega) (by omega) (by omega)) ?_
              refine pg_bipush (pc := 788) (v := 99) hC dL_act_788 (by decide) ?_
              refine pg_irem (pc := 790) (v := nI ((yy / 12) % 99)) hC dL_act_790 (by decide) (pk_rem (a := yy / 12) (d := 99) (by omega) (by omega) (by omega)) ?_
              refine pg_iadd (pc := 791) (v := nI (1 + ((yy / 12) % 99))) hC dL_act_791 (nI_add (1) ((yy / 12) % 99)) ?_
              refine pg_istore (pc := 792) (vs' := [(8, .int (nI (1 + ((yy / 12) % 99)))), (7, .int (Z 0 3 ex_)), (6, .int (nI pu_)), (5, .int (nI ex_)), (4, .int (nI n)), (3, .int (nI yy)), (2, .int (nI hw_)), (0, .ref (x 12 2)), (1, .int (nI X))]) hC dL_act_792 (by decide) rfl ?_
              refine pg_aload_n (pc := 794) hC dL_act_794 7 rfl rfl ?_
              refine pg_iload (pc := 795) hC dL_act_795 3 rfl ?_
              refine pg_iload (pc := 797) hC dL_act_797 0 rfl ?_
              obtain ⟨Ze, hZe⟩ : ∃ z, z = va_up (sKeep Z nx kp) 0 (zu (Z 0) 3 ex_ (nI (1 + ((yy / 12) % 99)))) := ⟨_, rfl⟩
              have eZe : Ze 0 = zu (Z 0) 3 ex_ (nI (1 + ((yy / 12) % 99))) := by rw [hZe, va_up_e]
              have jZe : IV (zu (Z 0) 3 ex_ (nI (1 + ((yy / 12) % 99)))) (n) (K + 1) := (IV_worth h (by omega) (by omega)).mono (Nat.le_succ K)
              have iZe : IV (Ze 0) (n) (K + 1) := by rw [eZe]; exact jZe
              have x1 : Ze 0 3 ex_ = nI (1 + ((yy / 12) % 99)) := by rw [eZe, zu_ee]
              refine pg_callVXi (pc := 799) (As := [.int (nI ex_), .int (nI (1 + ((yy / 12) % 99)))]) (rest := []) (v2 := Z 0 3 ex_) (Z3 := Ze) hC dL_act_799 (cX4_worth_c l hok n hn hn12 nx kp hnx hnx6 hkp hkp6 (nI ex_) (nI (1 + ((yy / 12) % 99)))) ⟨(ac_worth (nx := nx) (kp := kp) hn hn12 hex (by omega) (by omega)).1, (ac_worth hn hn12 hex (by omega) (by omega)).2.trans hZe.symm⟩ (cwV 2 hC.2.2.2.2.1 gL_act_X4_worth rfl rfl rfl (by decide +kernel) ⟨Nat.le_of_ble_eq_true rfl, Nat.le_of_ble_eq_true rfl⟩) (ok_mem hok (by decide)) (ok_Xo hok) rfl rfl rfl rfl (Nat.le_of_ble_eq_true rfl) (Nat.zero_le _) (Nat.zero_le _) (fun f4 hokw4 => ?_)
              refine pg_iload (pc := 802) hC dL_act_802 1 rfl ?_
              refine pg_icmp_ne (pc := 804) hC 823 dL_act_804 (by decide)  (fun c23 => False.elim (c23 rfl)) (fun c23 => ?_)
              refine pg_aload_n (pc := 807) hC dL_act_807 7 rfl rfl ?_
              refine pg_iload (pc := 808) hC dL_act_808 3 rfl ?_
              refine pg_iconst (pc := 810) (v := 1) hC dL_act_810 (by decide) ?_
              refine pg_callVYi (pc := 811) (As := [.int (nI ex_), .int 1]) (rest := []) (v2 := nI (1 + ((yy / 12) % 99))) hC dL_act_811 (cX4_excuse_c l hokw4 (n) iZe.nn iZe.n12 (nI ex_) 1) ((tE1 iZe.nn iZe.n12 hex).trans x1) (cwV 2 hC.2.2.2.2.1 gL_act_X4_excuse rfl rfl rfl (by decide +kernel) ⟨Nat.le_of_ble_eq_true rfl, Nat.le_of_ble_eq_true rfl⟩) (ok_mem hokw4 (by decide)) (ok_Xo hokw4) rfl rfl rfl rfl (Nat.le_of_ble_eq_true rfl) (Nat.zero_le _) (Nat.zero_le _) ?_
              refine pg_iload (pc := 814) hC dL_act_814 0 rfl ?_
              refine pg_icmp_neN (pc := 816) hC 823 dL_act_816 (by decide) (1 + ((yy / 12) % 99)) (1 + ((yy / 12) % 99)) rfl rfl (by omega) (by omega) (fun c24 => False.elim (c24 rfl)) (fun c24 => ?_)
              refine pg_iconst (pc := 819) (v := 1) hC dL_act_819 (by decide) ?_
              refine pg_goto (pc := 820) hC 825 dL_act_820 (by decide) ?_
              exact pg_iret (pc := 825) hC dL_act_825 rfl ⟨rfl, _, hokw4, Or.inr ⟨rfl, _, _, hZe, jZe⟩⟩
          · skip
            refine pg_aload_n (pc := 617) hC dL_act_617 5 rfl rfl ?_
            refine pg_iload (pc := 618) hC dL_act_618 0 rfl ?_
            refine pg_iconst (pc := 620) (v := 1) hC dL_act_620 (by decide) ?_
            obtain ⟨fq_, hfb, hfq⟩ := ac_fine h hK hpu
            refine pg_callVYi (pc := 621) (As := [.int (nI pu_), .int 1]) (rest := []) (v2 := nI fq_) hC dL_act_621 (cX4_pupil_c l hok (nI pu_) 1) ((tP1 hpu).trans hfq) (cwV 2 hC.2.2.2.2.1 gL_act_X4_pupil rfl rfl rfl (by decide +kernel) ⟨Nat.le_of_ble_eq_true rfl, Nat.le_of_ble_eq_true rfl⟩) (ok_mem hok (by decide)) (ok_Xo hok) rfl rfl rfl rfl (Nat.le_of_ble_eq_true rfl) (Nat.zero_le _) (Nat.zero_le _) ?_
            refine pg_istore (pc := 624) (vs' := [(7, .int (nI fq_)), (6, .int (nI pu_)), (5, .int (nI ex_)), (4, .int (nI n)), (3, .int (nI yy)), (2, .int (nI hw_)), (0, .ref (x 12 2)), (1, .int (nI X))]) hC dL_act_624 (by decide) rfl ?_
            refine pg_iload_n (pc := 626) hC dL_act_626 4 rfl rfl ?_
            refine pg_bipush (pc := 627) (v := 120) hC dL_act_627 (by decide) ?_
            refine pg_idiv (pc := 629) (v := nI (yy / 120)) hC dL_act_629 (by decide) (pk_div (a := yy) (d := 120) (by omega) (by omega) (by omega)) ?_
            refine pg_iconst (pc := 630) (v := 2) hC dL_act_630 (by decide) ?_
            refine pg_irem (pc := 631) (v := nI ((yy / 120) % 2)) hC dL_act_631 (by decide) (pk_rem (a := yy / 120) (d := 2) (by omega) (by omega) (by omega)) ?_
            refine pg_join (pc := 632) (σ := Nat) (fun q => match q with | pe_ => 1 ≤ pe_ ∧ pe_ ≤ 600000) 666 (fun q => match q with | pe_ => [(8, .int (nI pe_)), (7, .int (nI fq_)), (6, .int (nI pu_)), (5, .int (nI ex_)), (4, .int (nI n)), (3, .int (nI yy)), (2, .int (nI hw_)), (0, .ref (x 12 2)), (1, .int (nI X))]) (fun q => match q with | pe_ => []) (fun q => match q with | pe_ => f) ?_ (fun j25 => ?_)
            · skip
              intro q hI
              obtain ⟨pe_, rfl⟩ : ∃ z, z = q := ⟨_, rfl⟩
              try dsimp only
              obtain ⟨hp1, hp2⟩ : 1 ≤ pe_ ∧ pe_ ≤ 600000 := hI
              refine pg_iload (pc := 666) hC dL_act_666 0 rfl ?_
              refine pg_sipush (pc := 668) (v := 9999) hC dL_act_668 (by decide) ?_
              refine pg_join (pc := 671) (σ := Nat) (fun q => match q with | pf_ => 1 ≤ pf_ ∧ pf_ ≤ 9999) 684 (fun q => match q with | pf_ => [(8, .int (nI pf_)), (7, .int (nI fq_)), (6, .int (nI pu_)), (5, .int (nI ex_)), (4, .int (nI n)), (3, .int (nI yy)), (2, .int (nI hw_)), (0, .ref (x 12 2)), (1, .int (nI X))]) (fun q => match q with | pf_ => []) (fun q => match q with | pf_ => f) ?_ (fun j26 => ?_)
              · skip
                intro q hI
                obtain ⟨pf_, rfl⟩ : ∃ z, z = q := ⟨_, rfl⟩
                try dsimp only
                obtain ⟨hp3, hp4⟩ : 1 ≤ pf_ ∧ pf_ ≤ 9999 := hI
                refine pg_aload_n (pc := 684) hC dL_act_684 7 rfl rfl ?_
                refine pg_bipush (pc := 685) (v := 12) hC dL_act_685 (by decide) ?_
                refine pg_callVYi (pc := 687) (As := [.int 12]) (rest := []) (v2 := bx_sum (Z 0 8) 10) hC dL_act_687 (cX4_count_c l hok n hn hn12 12 _ rfl) (tC _ _).2.2.2.2.2.2.2.2.2.2.2.2.1 (cwV 1 hC.2.2.2.2.1 gL_act_X4_count rfl rfl rfl (by decide +kernel) ⟨Nat.le_of_ble_eq_true rfl, Nat.le_of_ble_eq_true rfl⟩) (ok_mem hok (by decide)) (ok_Xo hok) rfl rfl rfl rfl (Nat.le_of_ble_eq_true rfl) (Nat.zero_le _) (Nat.zero_le _) ?_
                refine pg_istore (pc := 690) (vs' := [(9, .int (bx_sum (Z 0 8) 10)), (8, .int (nI pf_)), (7, .int (nI fq_)), (6, .int (nI pu_)), (5, .int (nI ex_)), (4, .int (nI n)), (3, .int (nI yy)), (2, .int (nI hw_)), (0, .ref (x 12 2)), (1, .int (nI X))]) hC dL_act_690 (by decide) rfl ?_
                rcases Nat.lt_or_ge fq_ pf_ with hl | hl
                · skip
                  refine pg_aload_n (pc := 692) hC dL_act_692 8 rfl rfl ?_
                  refine pg_iload (pc := 693) hC dL_act_693 3 rfl ?_
                  refine pg_iload (pc := 695) hC dL_act_695 1 rfl ?_
                  refine pg_callVXi (pc := 697) (As := [.int (nI pu_), .int (nI pf_)]) (rest := []) (v2 := (-5)) (Z3 := Z) hC dL_act_697 (cX4_pay_c l hok nx kp hnx hnx6 hkp hkp6 (nI pu_) (nI pf_)) (ac_pay1 hpu hfq hp3 hp4 hl) (cwV 2 hC.2.2.2.2.1 gL_act_X4_pay rfl rfl rfl (by decide +kernel) ⟨Nat.le_of_ble_eq_true rfl, Nat.le_of_ble_eq_true rfl⟩) (ok_mem hok (by decide)) (ok_Xo hok) rfl rfl rfl rfl (Nat.le_of_ble_eq_true rfl) (Nat.zero_le _) (Nat.zero_le _) (fun f5 hokw5 => ?_)
                  refine pg_istore (pc := 700) (vs' := [(10, .int (-5)), (9, .int (bx_sum (Z 0 8) 10)), (8, .int (nI pf_)), (7, .int (nI fq_)), (6, .int (nI pu_)), (5, .int (nI ex_)), (4, .int (nI n)), (3, .int (nI yy)), (2, .int (nI hw_)), (0, .ref (x 12 2)), (1, .int (nI X))]) hC dL_act_700 (by decide) rfl ?_
                  refine pg_iload (pc := 702) hC dL_act_702 3 rfl ?_
                  refine pg_iload (pc := 704) hC dL_act_704 2 rfl ?_
                  refine pg_icmp_geN (pc := 706) hC 725 dL_act_706 (by decide) (fq_) (pf_) rfl rfl (by omega) (by omega) (fun c27 => False.elim (absurd c27 (by omega))) (fun c27 => ?_)
                  refine pg_iload (pc := 709) hC dL_act_709 0 rfl ?_
                  refine pg_bipush (pc := 711) (v := (-5)) hC dL_act_711 (by decide) ?_
                  refine pg_icmp_ne (pc := 713) hC 720 dL_act_713 (by decide)  (fun c28 => False.elim (c28 rfl)) (fun c28 => ?_)
                  refine pg_iconst (pc := 716) (v := 0) hC dL_act_716 (by decide) ?_
                  refine pg_goto (pc := 717) hC 767 dL_act_717 (by decide) ?_
                  exact pg_iret (pc := 767) hC dL_act_767 rfl ⟨rfl, _, hokw5, Or.inl ⟨rfl, rfl⟩⟩
                · skip
                  refine pg_aload_n (pc := 692) hC dL_act_692 8 rfl rfl ?_
                  refine pg_iload (pc := 693) hC dL_act_693 3 rfl ?_
                  refine pg_iload (pc := 695) hC dL_act_695 1 rfl ?_
                  obtain ⟨Zd, hZd⟩ : ∃ z, z = va_up (sKeep Z nx kp) 0 (sPay (Z 0) pu_ (nI pf_)) := ⟨_, rfl⟩
                  have eZd : Zd 0 = sPay (Z 0) pu_ (nI pf_) := by rw [hZd, va_up_e]
                  have jZd : IV (sPay (Z 0) pu_ (nI pf_)) (n) (K + 1) := (IV_pay h (by omega) hpu (by omega) (ac_pay2 (nx := nx) (kp := kp) hpu hfb hfq hp3 hp4 hl).1).mono (Nat.le_succ K)
                  have iZd : IV (Zd 0) (n) (K + 1) := by rw [eZd]; exact jZd
                  obtain ⟨w1, w2⟩ := ac_pay3 (z := Z 0) hpu hfq hl
                  rw [← eZd] at w1 w2
                  refine pg_callVXi (pc := 697) (As := [.int (nI pu_), .int (nI pf_)]) (rest := []) (v2 := nI (fq_ - pf_)) (Z3 := Zd) hC dL_act_697 (cX4_pay_c l hok nx kp hnx hnx6 hkp hkp6 (nI pu_) (nI pf_)) ⟨(ac_pay2 (nx := nx) (kp := kp) hpu hfb hfq hp3 hp4 hl).2.1, (ac_pay2 hpu hfb hfq hp3 hp4 hl).2.2.trans hZd.symm⟩ (cwV 2 hC.2.2.2.2.1 gL_act_X4_pay rfl rfl rfl (by decide +kernel) ⟨Nat.le_of_ble_eq_true rfl, Nat.le_of_ble_eq_true rfl⟩) (ok_mem hok (by decide)) (ok_Xo hok) rfl rfl rfl rfl (Nat.le_of_ble_eq_true rfl) (Nat.zero_le _) (Nat.zero_le _) (fun f6 hokw6 => ?_)
                  refine pg_istore (pc := 700) (vs' := [(10, .int (nI (fq_ - pf_))), (9, .int (bx_sum (Z 0 8) 10)), (8, .int (nI pf_)), (7, .int (nI fq_)), (6, .int (nI pu_)), (5, .int (nI ex_)), (4, .int (nI n)), (3, .int (nI yy)), (2, .int (nI hw_)), (0, .ref (x 12 2)), (1, .int (nI X))]) hC dL_act_700 (by decide) rfl ?_
                  refine pg_iload (pc := 702) hC dL_act_702 3 rfl ?_
                  refine pg_iload (pc := 704) hC dL_act_704 2 rfl ?_
                  refine pg_icmp_geN (pc := 706) hC 725 dL_act_706 (by decide) (fq_) (pf_) rfl rfl (by omega) (by omega) (fun c29 => ?_) (fun c29 => False.elim (absurd c29 (by omega)))
                  refine pg_iload (pc := 725) hC dL_act_725 0 rfl ?_
                  refine pg_iload (pc := 727) hC dL_act_727 3 rfl ?_
                  refine pg_iload (pc := 729) hC dL_act_729 2 rfl ?_
                  refine pg_isub (pc := 731) (v := nI (fq_ - pf_)) hC dL_act_731 (pk_sub (a := fq_) (b := pf_) (by omega)) ?_
                  refine pg_icmp_neN (pc := 732) hC 765 dL_act_732 (by decide) (fq_ - pf_) (fq_ - pf_) rfl rfl (by omega) (by omega) (fun c30 => False.elim (c30 rfl)) (fun c30 => ?_)
                  refine pg_aload_n (pc := 735) hC dL_act_735 9 rfl rfl ?_
                  refine pg_iload (pc := 736) hC dL_act_736 4 rfl ?_
                  refine pg_iconst (pc := 738) (v := 1) hC dL_act_738 (by decide) ?_
                  refine pg_callVYi (pc := 739) (As := [.int (nI pu_), .int 1]) (rest := []) (v2 := nI (fq_ - pf_)) hC dL_act_739 (cX4_pupil_c l hokw6 (nI pu_) 1) ((tP1 hpu).trans w1) (cwV 2 hC.2.2.2.2.1 gL_act_X4_pupil rfl rfl rfl (by decide +kernel) ⟨Nat.le_of_ble_eq_true rfl, Nat.le_of_ble_eq_true rfl⟩) (ok_mem hokw6 (by decide)) (ok_Xo hokw6) rfl rfl rfl rfl (Nat.le_of_ble_eq_true rfl) (Nat.zero_le _) (Nat.zero_le _) ?_
                  refine pg_iload (pc := 742) hC dL_act_742 0 rfl ?_
                  refine pg_icmp_neN (pc := 744) hC 765 dL_act_744 (by decide) (fq_ - pf_) (fq_ - pf_) rfl rfl (by omega) (by omega) (fun c31 => False.elim (c31 rfl)) (fun c31 => ?_)
                  refine pg_aload_n (pc := 747) hC dL_act_747 9 rfl rfl ?_
                  refine pg_bipush (pc := 748) (v := 12) hC dL_act_748 (by decide) ?_
                  refine pg_callVYi (pc := 750) (As := [.int 12]) (rest := []) (v2 := bx_sum (Zd 0 8) 10) hC dL_act_750 (cX4_count_c l hokw6 (n) iZd.nn iZd.n12 12 _ rfl) (tC _ _).2.2.2.2.2.2.2.2.2.2.2.2.1 (cwV 1 hC.2.2.2.2.1 gL_act_X4_count rfl rfl rfl (by decide +kernel) ⟨Nat.le_of_ble_eq_true rfl, Nat.le_of_ble_eq_true rfl⟩) (ok_mem hokw6 (by decide)) (ok_Xo hokw6) rfl rfl rfl rfl (Nat.le_of_ble_eq_true rfl) (Nat.zero_le _) (Nat.zero_le _) ?_
                  refine pg_iload (pc := 753) hC dL_act_753 1 rfl ?_
                  refine pg_iload (pc := 755) hC dL_act_755 2 rfl ?_
                  refine pg_iadd (pc := 757) (v := (bx_sum (Z 0 8) 10) + (nI pf_)) hC dL_act_757 rfl ?_
                  refine pg_icmp_ne (pc := 758) hC 765 dL_act_758 (by decide)  (fun c32 => False.elim (c32 w2)) (fun c32 => ?_)
                  refine pg_iconst (pc := 761) (v := 1) hC dL_act_761 (by decide) ?_
                  refine pg_goto (pc := 762) hC 767 dL_act_762 (by decide) ?_
                  exact pg_iret (pc := 767) hC dL_act_767 rfl ⟨rfl, _, hokw6, Or.inr ⟨rfl, _, _, hZd, jZd⟩⟩
              refine pg_icmp_leN (pc := 671) hC 680 dL_act_671 (by decide) (pe_) (9999) rfl rfl (by omega) (by omega) (fun c33 => ?_) (fun c33 => ?_)
              · skip
                refine pg_iload (pc := 680) hC dL_act_680 0 rfl ?_
                refine pg_istore (pc := 682) (vs' := [(8, .int (nI pe_)), (7, .int (nI fq_)), (6, .int (nI pu_)), (5, .int (nI ex_)), (4, .int (nI n)), (3, .int (nI yy)), (2, .int (nI hw_)), (0, .ref (x 12 2)), (1, .int (nI X))]) hC dL_act_682 (by decide) rfl ?_
                exact j26 (pe_) (by omega)
              · skip
                refine pg_sipush (pc := 674) (v := 9999) hC dL_act_674 (by decide) ?_
                refine pg_goto (pc := 677) hC 682 dL_act_677 (by decide) ?_
                refine pg_istore (pc := 682) (vs' := [(8, .int 9999), (7, .int (nI fq_)), (6, .int (nI pu_)), (5, .int (nI ex_)), (4, .int (nI n)), (3, .int (nI yy)), (2, .int (nI hw_)), (0, .ref (x 12 2)), (1, .int (nI X))]) hC dL_act_682 (by decide) rfl ?_
                exact j26 (9999) (by omega)
            refine pg_if_eq (pc := 632) hC 640 dL_act_632 (by decide)  (fun c34 => ?_) (fun c34 => ?_)
            · skip
              refine pg_iconst (pc := 640) (v := 1) hC dL_act_640 (by decide) ?_
              refine pg_iload_n (pc := 641) hC dL_act_641 4 rfl rfl ?_
              refine pg_sipush (pc := 642) (v := 240) hC dL_act_642 (by decide) ?_
              refine pg_idiv (pc := 645) (v := nI (yy / 240)) hC dL_act_645 (by decide) (pk_div (a := yy) (d := 240) (by omega) (by omega) (by omega)) ?_
              refine pg_sipush (pc := 646) (v := 300) hC dL_act_646 (by decide) ?_
              refine pg_irem (pc := 649) (v := nI ((yy / 240) % 300)) hC dL_act_649 (by decide) (pk_rem (a := yy / 240) (d := 300) (by omega) (by omega) (by omega)) ?_
              refine pg_iadd (pc := 650) (v := nI (1 + ((yy / 240) % 300))) hC dL_act_650 (nI_add (1) ((yy / 240) % 300)) ?_
              refine pg_goto (pc := 651) hC 664 dL_act_651 (by decide) ?_
              refine pg_istore (pc := 664) (vs' := [(8, .int (nI (1 + ((yy / 240) % 300)))), (7, .int (nI fq_)), (6, .int (nI pu_)), (5, .int (nI ex_)), (4, .int (nI n)), (3, .int (nI yy)), (2, .int (nI hw_)), (0, .ref (x 12 2)), (1, .int (nI X))]) hC dL_act_664 (by decide) rfl ?_
              exact j25 (1 + ((yy / 240) % 300)) (by omega)
            · skip
              refine pg_iload (pc := 635) hC dL_act_635 0 rfl ?_
              refine pg_if_ne (pc := 637) hC 654 dL_act_637 (by decide)  (fun c35 => ?_) (fun c35 => ?_)
              · skip
                have hf0 : 0 < fq_ := Nat.pos_of_ne_zero (fun q => c35 (by subst q; rfl))
                refine pg_iconst (pc := 654) (v := 1) hC dL_act_654 (by decide) ?_
                refine pg_iload_n (pc := 655) hC dL_act_655 4 rfl rfl ?_
                refine pg_sipush (pc := 656) (v := 240) hC dL_act_656 (by decide) ?_
                refine pg_idiv (pc := 659) (v := nI (yy / 240)) hC dL_act_659 (by decide) (pk_div (a := yy) (d := 240) (by omega) (by omega) (by omega)) ?_
                refine pg_iload (pc := 660) hC dL_act_660 0 rfl ?_
                refine pg_irem (pc := 662) (v := nI ((yy / 240) % fq_)) hC dL_act_662 (fun q => absurd ((nI_z (by omega)).mp q) (by omega)) (pk_rem (a := yy / 240) (d := fq_) (by omega) hf0 (by omega)) ?_
                refine pg_iadd (pc := 663) (v := nI (1 + ((yy / 240) % fq_))) hC dL_act_663 (nI_add (1) ((yy / 240) % fq_)) ?_
                refine pg_istore (pc := 664) (vs' := [(8, .int (nI (1 + ((yy / 240) % fq_)))), (7, .int (nI fq_)), (6, .int (nI pu_)), (5, .int (nI ex_)), (4, .int (nI n)), (3, .int (nI yy)), (2, .int (nI hw_)), (0, .ref (x 12 2)), (1, .int (nI X))]) hC dL_act_664 (by decide) rfl ?_
                exact j25 (1 + ((yy / 240) % fq_)) ⟨by omega, by have := Nat.mod_lt (yy / 240) hf0; omega⟩
              · skip
                refine pg_iconst (pc := 640) (v := 1) hC dL_act_640 (by decide) ?_
                refine pg_iload_n (pc := 641) hC dL_act_641 4 rfl rfl ?_
                refine pg_sipush (pc := 642) (v := 240) hC dL_act_642 (by decide) ?_
                refine pg_idiv (pc := 645) (v := nI (yy / 240)) hC dL_act_645 (by decide) (pk_div (a := yy) (d := 240) (by omega) (by omega) (by omega)) ?_
                refine pg_sipush (pc := 646) (v := 300) hC dL_act_646 (by decide) ?_
                refine pg_irem (pc := 649) (v := nI ((yy / 240) % 300)) hC dL_act_649 (by decide) (pk_rem (a := yy / 240) (d := 300) (by omega) (by omega) (by omega)) ?_
                refine pg_iadd (pc := 650) (v := nI (1 + ((yy / 240) % 300))) hC dL_act_650 (nI_add (1) ((yy / 240) % 300)) ?_
                refine pg_goto (pc := 651) hC 664 dL_act_651 (by decide) ?_
                refine pg_istore (pc := 664) (vs' := [(8, .int (nI (1 + ((yy / 240) % 300)))), (7, .int (nI fq_)), (6, .int (nI pu_)), (5, .int (nI ex_)), (4, .int (nI n)), (3, .int (nI yy)), (2, .int (nI hw_)), (0, .ref (x 12 2)), (1, .int (nI X))]) hC dL_act_664 (by decide) rfl ?_
                exact j25 (1 + ((yy / 240) % 300)) (by omega)
        · skip
          refine pg_aload_n (pc := 439) hC dL_act_439 5 rfl rfl ?_
          refine pg_bipush (pc := 440) (v := 11) hC dL_act_440 (by decide) ?_
          refine pg_callVYi (pc := 442) (As := [.int 11]) (rest := []) (v2 := bx_sum (Z 0 7) 10) hC dL_act_442 (cX4_count_c l hok n hn hn12 11 _ rfl) (tC _ _).2.2.2.2.2.2.2.2.2.2.2.1 (cwV 1 hC.2.2.2.2.1 gL_act_X4_count rfl rfl rfl (by decide +kernel) ⟨Nat.le_of_ble_eq_true rfl, Nat.le_of_ble_eq_true rfl⟩) (ok_mem hok (by decide)) (ok_Xo hok) rfl rfl rfl rfl (Nat.le_of_ble_eq_true rfl) (Nat.zero_le _) (Nat.zero_le _) ?_
          refine pg_istore (pc := 445) (vs' := [(7, .int (bx_sum (Z 0 7) 10)), (6, .int (nI pu_)), (5, .int (nI ex_)), (4, .int (nI n)), (3, .int (nI yy)), (2, .int (nI hw_)), (0, .ref (x 12 2)), (1, .int (nI X))]) hC dL_act_445 (by decide) rfl ?_
          refine pg_aload_n (pc := 447) hC dL_act_447 6 rfl rfl ?_
          refine pg_iconst (pc := 448) (v := 1) hC dL_act_448 (by decide) ?_
          refine pg_callVYi (pc := 449) (As := [.int 1]) (rest := []) (v2 := Z 0 0 1) hC dL_act_449 (cX4_count_c l hok n hn hn12 1 _ rfl) (tC _ _).2.1 (cwV 1 hC.2.2.2.2.1 gL_act_X4_count rfl rfl rfl (by decide +kernel) ⟨Nat.le_of_ble_eq_true rfl, Nat.le_of_ble_eq_true rfl⟩) (ok_mem hok (by decide)) (ok_Xo hok) rfl rfl rfl rfl (Nat.le_of_ble_eq_true rfl) (Nat.zero_le _) (Nat.zero_le _) ?_
          refine pg_istore (pc := 452) (vs' := [(8, .int (Z 0 0 1)), (7, .int (bx_sum (Z 0 7) 10)), (6, .int (nI pu_)), (5, .int (nI ex_)), (4, .int (nI n)), (3, .int (nI yy)), (2, .int (nI hw_)), (0, .ref (x 12 2)), (1, .int (nI X))]) hC dL_act_452 (by decide) rfl ?_
          refine pg_aload_n (pc := 454) hC dL_act_454 7 rfl rfl ?_
          obtain ⟨Zc, hZc⟩ : ∃ z, z = va_up (sKeep Z nx kp) 0 (sTerm (Z 0)) := ⟨_, rfl⟩
          have eZc : Zc 0 = sTerm (Z 0) := by rw [hZc, va_up_e]
          have jZc : IV (sTerm (Z 0)) (n) (K + 1) := IV_term h
          have iZc : IV (Zc 0) (n) (K + 1) := by rw [eZc]; exact jZc
          obtain ⟨t1, t2⟩ := ac_t1 h hK
          obtain ⟨t3, t4⟩ := ac_t2 (Z 0)
          have t5 := ac_t3 h hK1
          rw [← eZc] at t2 t3 t4 t5
          have t6 := fun (k : Nat) (hk : k < 10) => ac_t4 h hk
          rw [← eZc] at t6
          have t7 := fun (k : Nat) (hk : k < 10) => ac_nov h hK1 hk hex12
          rw [← eZc] at t7
          refine pg_callVXi (pc := 455) (As := []) (rest := []) (v2 := tEnd (Z 0)) (Z3 := Zc) hC dL_act_455 (cX4_endTerm_c l hok nx kp hnx hnx6 hkp hkp6) ⟨rfl, hZc.symm⟩ (cwV 0 hC.2.2.2.2.1 gL_act_X4_endTerm rfl rfl rfl (by decide +kernel) ⟨Nat.le_of_ble_eq_true rfl, Nat.le_of_ble_eq_true rfl⟩) (ok_mem hok (by decide)) (ok_Xo hok) rfl rfl rfl rfl (Nat.le_of_ble_eq_true rfl) (Nat.zero_le _) (Nat.zero_le _) (fun f7 hokw7 => ?_)
          refine pg_istore (pc := 458) (vs' := [(9, .int (tEnd (Z 0))), (8, .int (Z 0 0 1)), (7, .int (bx_sum (Z 0 7) 10)), (6, .int (nI pu_)), (5, .int (nI ex_)), (4, .int (nI n)), (3, .int (nI yy)), (2, .int (nI hw_)), (0, .ref (x 12 2)), (1, .int (nI X))]) hC dL_act_458 (by decide) rfl ?_
          refine pg_iload (pc := 460) hC dL_act_460 0 rfl ?_
          refine pg_if_lt (pc := 462) hC 510 dL_act_462 (by decide)  (fun c36 => False.elim (t1 c36)) (fun c36 => ?_)
          refine pg_iload (pc := 465) hC dL_act_465 0 rfl ?_
          refine pg_aload_n (pc := 467) hC dL_act_467 8 rfl rfl ?_
          refine pg_bipush (pc := 468) (v := 6) hC dL_act_468 (by decide) ?_
          refine pg_callVYi (pc := 470) (As := [.int 6]) (rest := [.int (tEnd (Z 0))]) (v2 := bx_sum (Zc 0 9) 10) hC dL_act_470 (cX4_count_c l hokw7 (n) iZc.nn iZc.n12 6 _ rfl) (tC _ _).2.2.2.2.2.2.1 (cwV 1 hC.2.2.2.2.1 gL_act_X4_count rfl rfl rfl (by decide +kernel) ⟨Nat.le_of_ble_eq_true rfl, Nat.le_of_ble_eq_true rfl⟩) (ok_mem hokw7 (by decide)) (ok_Xo hokw7) rfl rfl rfl rfl (Nat.le_of_ble_eq_true rfl) (Nat.zero_le _) (Nat.zero_le _) ?_
          refine pg_icmp_gt (pc := 473) hC 510 dL_act_473 (by decide)  (fun c37 => False.elim (t2 c37)) (fun c37 => ?_)
          refine pg_aload_n (pc := 476) hC dL_act_476 8 rfl rfl ?_
          refine pg_bipush (pc := 477) (v := 11) hC dL_act_477 (by decide) ?_
          refine pg_callVYi (pc := 479) (As := [.int 11]) (rest := []) (v2 := bx_sum (Zc 0 7) 10) hC dL_act_479 (cX4_count_c l hokw7 (n) iZc.nn iZc.n12 11 _ rfl) (tC _ _).2.2.2.2.2.2.2.2.2.2.2.1 (cwV 1 hC.2.2.2.2.1 gL_act_X4_count rfl rfl rfl (by decide +kernel) ⟨Nat.le_of_ble_eq_true rfl, Nat.le_of_ble_eq_true rfl⟩) (ok_mem hokw7 (by decide)) (ok_Xo hokw7) rfl rfl rfl rfl (Nat.le_of_ble_eq_true rfl) (Nat.zero_le _) (Nat.zero_le _) ?_
          refine pg_iload (pc := 482) hC dL_act_482 2 rfl ?_
          refine pg_icmp_ne (pc := 484) hC 510 dL_act_484 (by decide)  (fun c38 => False.elim (c38 t3)) (fun c38 => ?_)
          refine pg_aload_n (pc := 487) hC dL_act_487 8 rfl rfl ?_
          refine pg_iconst (pc := 488) (v := 1) hC dL_act_488 (by decide) ?_
          refine pg_callVYi (pc := 489) (As := [.int 1]) (rest := []) (v2 := Zc 0 0 1) hC dL_act_489 (cX4_count_c l hokw7 (n) iZc.nn iZc.n12 1 _ rfl) (tC _ _).2.1 (cwV 1 hC.2.2.2.2.1 gL_act_X4_count rfl rfl rfl (by decide +kernel) ⟨Nat.le_of_ble_eq_true rfl, Nat.le_of_ble_eq_true rfl⟩) (ok_mem hokw7 (by decide)) (ok_Xo hokw7) rfl rfl rfl rfl (Nat.le_of_ble_eq_true rfl) (Nat.zero_le _) (Nat.zero_le _) ?_
          refine pg_iload (pc := 492) hC dL_act_492 1 rfl ?_
          refine pg_icmp_ne (pc := 494) hC 510 dL_act_494 (by decide)  (fun c39 => False.elim (c39 t4)) (fun c39 => ?_)
          refine pg_aload_n (pc := 497) hC dL_act_497 8 rfl rfl ?_
          refine pg_bipush (pc := 498) (v := 17) hC dL_act_498 (by decide) ?_
          refine pg_callVYi (pc := 500) (As := [.int 17]) (rest := []) (v2 := sWOs (Zc 0) n) hC dL_act_500 (cX4_count_c l hokw7 (n) iZc.nn iZc.n12 17 _ rfl) (tC _ _).2.2.2.2.2.2.2.2.2.2.2.2.2.2.2.2.2.1 (cwV 1 hC.2.2.2.2.1 gL_act_X4_count rfl rfl rfl (by decide +kernel) ⟨Nat.le_of_ble_eq_true rfl, Nat.le_of_ble_eq_true rfl⟩) (ok_mem hokw7 (by decide)) (ok_Xo hokw7) rfl rfl rfl rfl (Nat.le_of_ble_eq_true rfl) (Nat.zero_le _) (Nat.zero_le _) ?_
          refine pg_if_ne (pc := 503) hC 510 dL_act_503 (by decide)  (fun c40 => False.elim (c40 t5)) (fun c40 => ?_)
          refine pg_iconst (pc := 506) (v := 1) hC dL_act_506 (by decide) ?_
          refine pg_goto (pc := 507) hC 511 dL_act_507 (by decide) ?_
          refine pg_istore (pc := 511) (vs' := [(10, .int 1), (9, .int (tEnd (Z 0))), (8, .int (Z 0 0 1)), (7, .int (bx_sum (Z 0 7) 10)), (6, .int (nI pu_)), (5, .int (nI ex_)), (4, .int (nI n)), (3, .int (nI yy)), (2, .int (nI hw_)), (0, .ref (x 12 2)), (1, .int (nI X))]) hC dL_act_511 (by decide) rfl ?_
          refine pg_iconst (pc := 513) (v := 0) hC dL_act_513 (by decide) ?_
          refine pg_istore (pc := 514) (vs' := [(11, .int 0), (10, .int 1), (9, .int (tEnd (Z 0))), (8, .int (Z 0 0 1)), (7, .int (bx_sum (Z 0 7) 10)), (6, .int (nI pu_)), (5, .int (nI ex_)), (4, .int (nI n)), (3, .int (nI yy)), (2, .int (nI hw_)), (0, .ref (x 12 2)), (1, .int (nI X))]) hC dL_act_514 (by decide) rfl ?_
          refine pg_sub (vs' := [(0, .ref (x 12 2)), (1, .int (nI X)), (2, .int (nI hw_)), (3, .int (nI yy)), (4, .int (nI n)), (5, .int (nI ex_)), (6, .int (nI pu_)), (7, .int (bx_sum (Z 0 7) 10)), (8, .int (Z 0 0 1)), (9, .int (tEnd (Z 0))), (10, .int 1), (11, .int 0)]) [10, 11, 9, 8, 7, 6, 5, 4, 3, 2, 1, 0] rfl ?_
          refine pg_loop (pc := 516) (σ := Nat) (I := fun q => match q with | k_ => k_ ≤ 10) (μ := fun q => match q with | k_ => 10 - k_) (VS := fun q => match q with | k_ => [(0, .ref (x 12 2)), (1, .int (nI X)), (2, .int (nI hw_)), (3, .int (nI yy)), (4, .int (nI n)), (5, .int (nI ex_)), (6, .int (nI pu_)), (7, .int (bx_sum (Z 0 7) 10)), (8, .int (Z 0 0 1)), (9, .int (tEnd (Z 0))), (10, .int 1), (11, .int (nI k_))]) (FF := fun q => match q with | k_ => f7) ?_ (0) (Nat.zero_le _)
          intro q hI ih41
          obtain ⟨k_, rfl⟩ : ∃ z, z = q := ⟨_, rfl⟩
          dsimp only at hI ih41 ⊢
          have hI2 := hI
          obtain hk_ := hI
          refine pg_iload (pc := 516) hC dL_act_516 11 rfl ?_
          refine pg_bipush (pc := 518) (v := 10) hC dL_act_518 (by decide) ?_
          refine pg_icmp_geN (pc := 520) hC 599 dL_act_520 (by decide) (k_) (10) rfl rfl (by omega) (by omega) (fun c42 => ?_) (fun c42 => ?_)
          · skip
            refine pg_iload (pc := 599) hC dL_act_599 10 rfl ?_
            refine pg_if_eq (pc := 601) hC 608 dL_act_601 (by decide)  (fun c43 => False.elim (absurd c43 (by decide))) (fun c43 => ?_)
            refine pg_iconst (pc := 604) (v := 1) hC dL_act_604 (by decide) ?_
            refine pg_goto (pc := 605) hC 610 dL_act_605 (by decide) ?_
            exact pg_iret (pc := 610) hC dL_act_610 rfl ⟨rfl, _, hokw7, Or.inr ⟨rfl, _, _, hZc, jZc⟩⟩
          · skip
            have hk10 : k_ < 10 := by omega
            obtain ⟨v1, v2, v3, v4⟩ := t6 k_ hk10
            have v5 := t7 k_ hk10
            refine pg_iload (pc := 523) hC dL_act_523 10 rfl ?_
            refine pg_if_eq (pc := 525) hC 590 dL_act_525 (by decide)  (fun c44 => False.elim (absurd c44 (by decide))) (fun c44 => ?_)
            refine pg_aload_n (pc := 528) hC dL_act_528 0 rfl rfl ?_
            refine pg_iload (pc := 529) hC dL_act_529 11 rfl ?_
            refine pg_iconst (pc := 531) (v := 4) hC dL_act_531 (by decide) ?_
            refine pg_callVYi (pc := 532) (As := [.int (nI k_), .int 4]) (rest := []) (v2 := (-6)) hC dL_act_532 (cX4_pupil_c l hokw7 (nI k_) 4) ((tP4 hk10).trans v1) (cwV 2 hC.2.2.2.2.1 gL_act_X4_pupil rfl rfl rfl (by decide +kernel) ⟨Nat.le_of_ble_eq_true rfl, Nat.le_of_ble_eq_true rfl⟩) (ok_mem hokw7 (by decide)) (ok_Xo hokw7) rfl rfl rfl rfl (Nat.le_of_ble_eq_true rfl) (Nat.zero_le _) (Nat.zero_le _) ?_
            refine pg_bipush (pc := 535) (v := (-6)) hC dL_act_535 (by decide) ?_
            refine pg_icmp_ne (pc := 537) hC 590 dL_act_537 (by decide)  (fun c45 => False.elim (c45 rfl)) (fun c45 => ?_)
            refine pg_aload_n (pc := 540) hC dL_act_540 0 rfl rfl ?_
            refine pg_iload (pc := 541) hC dL_act_541 11 rfl ?_
            refine pg_iconst (pc := 543) (v := 5) hC dL_act_543 (by decide) ?_
            refine pg_callVYi (pc := 544) (As := [.int (nI k_), .int 5]) (rest := []) (v2 := 0) hC dL_act_544 (cX4_pupil_c l hokw7 (nI k_) 5) ((tP5 hk10).trans v2) (cwV 2 hC.2.2.2.2.1 gL_act_X4_pupil rfl rfl rfl (by decide +kernel) ⟨Nat.le_of_ble_eq_true rfl, Nat.le_of_ble_eq_true rfl⟩) (ok_mem hokw7 (by decide)) (ok_Xo hokw7) rfl rfl rfl rfl (Nat.le_of_ble_eq_true rfl) (Nat.zero_le _) (Nat.zero_le _) ?_
            refine pg_if_ne (pc := 547) hC 590 dL_act_547 (by decide)  (fun c46 => False.elim (absurd c46 (by decide))) (fun c46 => ?_)
            refine pg_aload_n (pc := 550) hC dL_act_550 0 rfl rfl ?_
            refine pg_iload (pc := 551) hC dL_act_551 11 rfl ?_
            refine pg_iconst (pc := 553) (v := 0) hC dL_act_553 (by decide) ?_
            refine pg_callVYi (pc := 554) (As := [.int (nI k_), .int 0]) (rest := []) (v2 := Zc 0 6 k_) hC dL_act_554 (cX4_pupil_c l hokw7 (nI k_) 0) (tP0 (by omega)) (cwV 2 hC.2.2.2.2.1 gL_act_X4_pupil rfl rfl rfl (by decide +kernel) ⟨Nat.le_of_ble_eq_true rfl, Nat.le_of_ble_eq_true rfl⟩) (ok_mem hokw7 (by decide)) (ok_Xo hokw7) rfl rfl rfl rfl (Nat.le_of_ble_eq_true rfl) (Nat.zero_le _) (Nat.zero_le _) ?_
            refine pg_iconst (pc := 557) (v := 1) hC dL_act_557 (by decide) ?_
            refine pg_icmp_le (pc := 558) hC 590 dL_act_558 (by decide)  (fun c47 => False.elim (v3 c47)) (fun c47 => ?_)
            refine pg_aload_n (pc := 561) hC dL_act_561 0 rfl rfl ?_
            refine pg_iload (pc := 562) hC dL_act_562 11 rfl ?_
            refine pg_bipush (pc := 564) (v := 6) hC dL_act_564 (by decide) ?_
            refine pg_callVYi (pc := 566) (As := [.int (nI k_), .int 6]) (rest := []) (v2 := Zc 0 12 (k_ / 2)) hC dL_act_566 (cX4_pupil_c l hokw7 (nI k_) 6) (tP6 (by omega) (by omega)) (cwV 2 hC.2.2.2.2.1 gL_act_X4_pupil rfl rfl rfl (by decide +kernel) ⟨Nat.le_of_ble_eq_true rfl, Nat.le_of_ble_eq_true rfl⟩) (ok_mem hokw7 (by decide)) (ok_Xo hokw7) rfl rfl rfl rfl (Nat.le_of_ble_eq_true rfl) (Nat.zero_le _) (Nat.zero_le _) ?_
            refine pg_iconst (pc := 569) (v := 5) hC dL_act_569 (by decide) ?_
            refine pg_icmp_ge (pc := 570) hC 590 dL_act_570 (by decide)  (fun c48 => False.elim (v4 c48)) (fun c48 => ?_)
            refine pg_aload_n (pc := 573) hC dL_act_573 0 rfl rfl ?_
            refine pg_iload (pc := 574) hC dL_act_574 11 rfl ?_
            refine pg_iload (pc := 576) hC dL_act_576 5 rfl ?_
            refine pg_callVYi (pc := 578) (As := [.int (nI k_), .int (nI ex_)]) (rest := []) (v2 := 100) hC dL_act_578 (cX4_novelty_c l hokw7 (n) iZc.nn iZc.n12 (nI k_) (nI ex_)) ((tNv iZc.nn iZc.n12 hk10 hex).trans v5) (cwV 2 hC.2.2.2.2.1 gL_act_X4_novelty rfl rfl rfl (by decide +kernel) ⟨Nat.le_of_ble_eq_true rfl, Nat.le_of_ble_eq_true rfl⟩) (ok_mem hokw7 (by decide)) (ok_Xo hokw7) rfl rfl rfl rfl (Nat.le_of_ble_eq_true rfl) (Nat.zero_le _) (Nat.zero_le _) ?_
            refine pg_bipush (pc := 581) (v := 100) hC dL_act_581 (by decide) ?_
            refine pg_icmp_neN (pc := 583) hC 590 dL_act_583 (by decide) (100) (100) rfl rfl (by omega) (by omega) (fun c49 => False.elim (c49 rfl)) (fun c49 => ?_)
            refine pg_iconst (pc := 586) (v := 1) hC dL_act_586 (by decide) ?_
            refine pg_goto (pc := 587) hC 591 dL_act_587 (by decide) ?_
            refine pg_istore (pc := 591) (vs' := [(10, .int 1), (0, .ref (x 12 2)), (1, .int (nI X)), (2, .int (nI hw_)), (3, .int (nI yy)), (4, .int (nI n)), (5, .int (nI ex_)), (6, .int (nI pu_)), (7, .int (bx_sum (Z 0 7) 10)), (8, .int (Z 0 0 1)), (9, .int (tEnd (Z 0))), (11, .int (nI k_))]) hC dL_act_591 (by decide) rfl ?_
            refine pg_iinc (pc := 593) (v := nI (k_ + 1)) (vs' := [(11, .int (nI (k_ + 1))), (10, .int 1), (0, .ref (x 12 2)), (1, .int (nI X)), (2, .int (nI hw_)), (3, .int (nI yy)), (4, .int (nI n)), (5, .int (nI ex_)), (6, .int (nI pu_)), (7, .int (bx_sum (Z 0 7) 10)), (8, .int (Z 0 0 1)), (9, .int (tEnd (Z 0)))]) hC dL_act_593 11 rfl (nI_add (k_) 1) (by decide) rfl ?_
            refine pg_goto (pc := 596) hC 516 dL_act_596 (by decide) ?_
            refine pg_sub (vs' := [(0, .ref (x 12 2)), (1, .int (nI X)), (2, .int (nI hw_)), (3, .int (nI yy)), (4, .int (nI n)), (5, .int (nI ex_)), (6, .int (nI pu_)), (7, .int (bx_sum (Z 0 7) 10)), (8, .int (Z 0 0 1)), (9, .int (tEnd (Z 0))), (10, .int 1), (11, .int (nI (k_ + 1)))]) [2, 3, 4, 5, 6, 7, 8, 9, 10, 11, 1, 0] rfl ?_
            exact ih41 (k_ + 1) (by omega) (by omega)
      · skip
        refine pg_iload_n (pc := 155) hC dL_act_155 3 rfl rfl ?_
        refine pg_bipush (pc := 156) (v := 120) hC dL_act_156 (by decide) ?_
        refine pg_idiv (pc := 158) (v := nI (yy / 120)) hC dL_act_158 (by decide) (pk_div (a := yy) (d := 120) (by omega) (by omega) (by omega)) ?_
        refine pg_iconst (pc := 159) (v := 3) hC dL_act_159 (by decide) ?_
        refine pg_irem (pc := 160) (v := nI ((yy / 120) % 3)) hC dL_act_160 (by decide) (pk_rem (a := yy / 120) (d := 3) (by omega) (by omega) (by omega)) ?_
        refine pg_join (pc := 161) (σ := Int32) (fun q => match q with | wt_ => wt_ = -6 ∨ ∃ w : Nat, w < 10 ∧ wt_ = nI w ∧ w ≠ pu_) 187 (fun q => match q with | wt_ => [(7, .int wt_), (6, .int (nI pu_)), (5, .int (nI ex_)), (4, .int (nI n)), (3, .int (nI yy)), (2, .int (nI hw_)), (0, .ref (x 12 2)), (1, .int (nI X))]) (fun q => match q with | wt_ => []) (fun q => match q with | wt_ => f) ?_ (fun j50 => ?_)
        · skip
          intro q hI
          obtain ⟨wt_, rfl⟩ : ∃ z, z = q := ⟨_, rfl⟩
          try dsimp only
          have hwt : wt_ = -6 ∨ ∃ w : Nat, w < 10 ∧ wt_ = nI w ∧ w ≠ pu_ := hI
          refine pg_iconst (pc := 187) (v := 1) hC dL_act_187 (by decide) ?_
          refine pg_iload_n (pc := 188) hC dL_act_188 4 rfl rfl ?_
          refine pg_sipush (pc := 189) (v := 3240) hC dL_act_189 (by decide) ?_
          refine pg_idiv (pc := 192) (v := nI (yy / 3240)) hC dL_act_192 (by decide) (pk_div (a := yy) (d := 3240) (by omega) (by omega) (by omega)) ?_
          refine pg_iload_n (pc := 193) hC dL_act_193 4 rfl rfl ?_
          refine pg_iconst (pc := 194) (v := 2) hC dL_act_194 (by decide) ?_
          refine pg_irem (pc := 195) (v := nI (yy % 2)) hC dL_act_195 (by decide) (pk_rem (a := yy) (d := 2) (by omega) (by omega) (by omega)) ?_
          refine pg_join (pc := 196) (σ := Nat) (fun q => match q with | mi_ => 1 ≤ mi_ ∧ mi_ ≤ 99) 210 (fun q => match q with | mi_ => [(8, .int (nI mi_)), (7, .int wt_), (6, .int (nI pu_)), (5, .int (nI ex_)), (4, .int (nI n)), (3, .int (nI yy)), (2, .int (nI hw_)), (0, .ref (x 12 2)), (1, .int (nI X))]) (fun q => match q with | mi_ => []) (fun q => match q with | mi_ => f) ?_ (fun j51 => ?_)
          · skip
            intro q hI
            obtain ⟨mi_, rfl⟩ : ∃ z, z = q := ⟨_, rfl⟩
            try dsimp only
            obtain ⟨hm1, hm99⟩ : 1 ≤ mi_ ∧ mi_ ≤ 99 := hI
            have hte : tErr (Z 0) (nI pu_) (nI ex_) wt_ (nI mi_) = 0 := ac_err hn hn12 hpu hex hwt hm1 hm99
            obtain ⟨r0, r5⟩ := ac_r05 (Z 0) pu_ ex_ wt_ (nI mi_)
            obtain ⟨r6, r7⟩ := ac_r67 h hK hpu hex hwt hm99
            obtain ⟨Zb, hZb⟩ : ∃ z, z = va_up (sKeep Z nx kp) 0 (sOffer (Z 0) pu_ ex_ wt_ (nI mi_)) := ⟨_, rfl⟩
            have eZb : Zb 0 = sOffer (Z 0) pu_ ex_ wt_ (nI mi_) := by rw [hZb, va_up_e]
            have jZb : IV (sOffer (Z 0) pu_ ex_ wt_ (nI mi_)) (n) (K + 1) := IV_offer h hpu hex wt_ hm99
            have iZb : IV (Zb 0) (n) (K + 1) := by rw [eZb]; exact jZb
            obtain ⟨s60, s6n⟩ := ac_s9 (z := Z 0) (e := ex_) (wt := wt_) (mn := nI mi_) hpu
            obtain ⟨s130, s13n⟩ := ac_s13 (z := Z 0) (e := ex_) (wt := wt_) (mn := nI mi_) hpu
            obtain ⟨c15a, c15b, c15c⟩ := ac_c15 (e := ex_) h hwt (nI mi_)
            have b0 : Zb 0 0 = Z 0 0 := by rw [eZb]; exact ac_s0 _ _ _ _ _
            rw [← eZb] at s60 s6n s130 s13n c15a c15b c15c
            refine pg_aload_n (pc := 210) hC dL_act_210 7 rfl rfl ?_
            refine pg_iload (pc := 211) hC dL_act_211 2 rfl ?_
            refine pg_iload (pc := 213) hC dL_act_213 3 rfl ?_
            refine pg_iload (pc := 215) hC dL_act_215 1 rfl ?_
            refine pg_iload (pc := 217) hC dL_act_217 0 rfl ?_
            refine pg_callVYi (pc := 219) (As := [.int (nI pu_), .int (nI ex_), .int wt_, .int (nI mi_)]) (rest := []) (v2 := sReason (Z 0) pu_ ex_ wt_ (nI mi_)) hC dL_act_219 (cX4_why_c l hok n hn hn12 (nI pu_) (nI ex_) wt_ (nI mi_)) (ac_why hte hpu hex12) (cwV 4 hC.2.2.2.2.1 gL_act_X4_why rfl rfl rfl (by decide +kernel) ⟨Nat.le_of_ble_eq_true rfl, Nat.le_of_ble_eq_true rfl⟩) (ok_mem hok (by decide)) (ok_Xo hok) rfl rfl rfl rfl (Nat.le_of_ble_eq_true rfl) (Nat.zero_le _) (Nat.zero_le _) ?_
            refine pg_istore (pc := 222) (vs' := [(9, .int (sReason (Z 0) pu_ ex_ wt_ (nI mi_))), (8, .int (nI mi_)), (7, .int wt_), (6, .int (nI pu_)), (5, .int (nI ex_)), (4, .int (nI n)), (3, .int (nI yy)), (2, .int (nI hw_)), (0, .ref (x 12 2)), (1, .int (nI X))]) hC dL_act_222 (by decide) rfl ?_
            refine pg_aload_n (pc := 224) hC dL_act_224 8 rfl rfl ?_
            refine pg_iload (pc := 225) hC dL_act_225 3 rfl ?_
            refine pg_iload (pc := 227) hC dL_act_227 4 rfl ?_
            refine pg_iload (pc := 229) hC dL_act_229 2 rfl ?_
            refine pg_iload (pc := 231) hC dL_act_231 1 rfl ?_
            refine pg_callVYi (pc := 233) (As := [.int (nI pu_), .int (nI ex_), .int wt_, .int (nI mi_)]) (rest := []) (v2 := 1000 + sWt (Z 0) pu_ ex_ wt_ (nI mi_)) hC dL_act_233 (cX4_weight_c l hok n hn hn12 (nI pu_) (nI ex_) wt_ (nI mi_)) (ac_wei hte hpu hex12) (cwV 4 hC.2.2.2.2.1 gL_act_X4_weight rfl rfl rfl (by decide +kernel) ⟨Nat.le_of_ble_eq_true rfl, Nat.le_of_ble_eq_true rfl⟩) (ok_mem hok (by decide)) (ok_Xo hok) rfl rfl rfl rfl (Nat.le_of_ble_eq_true rfl) (Nat.zero_le _) (Nat.zero_le _) ?_
            refine pg_istore (pc := 236) (vs' := [(10, .int (1000 + sWt (Z 0) pu_ ex_ wt_ (nI mi_))), (9, .int (sReason (Z 0) pu_ ex_ wt_ (nI mi_))), (8, .int (nI mi_)), (7, .int wt_), (6, .int (nI pu_)), (5, .int (nI ex_)), (4, .int (nI n)), (3, .int (nI yy)), (2, .int (nI hw_)), (0, .ref (x 12 2)), (1, .int (nI X))]) hC dL_act_236 (by decide) rfl ?_
            refine pg_aload_n (pc := 238) hC dL_act_238 9 rfl rfl ?_
            refine pg_bipush (pc := 239) (v := 6) hC dL_act_239 (by decide) ?_
            refine pg_callVYi (pc := 241) (As := [.int 6]) (rest := []) (v2 := bx_sum (Z 0 9) 10) hC dL_act_241 (cX4_count_c l hok n hn hn12 6 _ rfl) (tC _ _).2.2.2.2.2.2.1 (cwV 1 hC.2.2.2.2.1 gL_act_X4_count rfl rfl rfl (by decide +kernel) ⟨Nat.le_of_ble_eq_true rfl, Nat.le_of_ble_eq_true rfl⟩) (ok_mem hok (by decide)) (ok_Xo hok) rfl rfl rfl rfl (Nat.le_of_ble_eq_true rfl) (Nat.zero_le _) (Nat.zero_le _) ?_
            refine pg_istore (pc := 244) (vs' := [(11, .int (bx_sum (Z 0 9) 10)), (10, .int (1000 + sWt (Z 0) pu_ ex_ wt_ (nI mi_))), (9, .int (sReason (Z 0) pu_ ex_ wt_ (nI mi_))), (8, .int (nI mi_)), (7, .int wt_), (6, .int (nI pu_)), (5, .int (nI ex_)), (4, .int (nI n)), (3, .int (nI yy)), (2, .int (nI hw_)), (0, .ref (x 12 2)), (1, .int (nI X))]) hC dL_act_244 (by decide) rfl ?_
            refine pg_aload_n (pc := 246) hC dL_act_246 10 rfl rfl ?_
            refine pg_bipush (pc := 247) (v := 13) hC dL_act_247 (by decide) ?_
            refine pg_callVYi (pc := 249) (As := [.int 13]) (rest := []) (v2 := bx_sum (Z 0 7) 10 + bx_sum (Z 0 8) 10) hC dL_act_249 (cX4_count_c l hok n hn hn12 13 _ rfl) (tC _ _).2.2.2.2.2.2.2.2.2.2.2.2.2.1 (cwV 1 hC.2.2.2.2.1 gL_act_X4_count rfl rfl rfl (by decide +kernel) ⟨Nat.le_of_ble_eq_true rfl, Nat.le_of_ble_eq_true rfl⟩) (ok_mem hok (by decide)) (ok_Xo hok) rfl rfl rfl rfl (Nat.le_of_ble_eq_true rfl) (Nat.zero_le _) (Nat.zero_le _) ?_
            refine pg_istore (pc := 252) (vs' := [(12, .int (bx_sum (Z 0 7) 10 + bx_sum (Z 0 8) 10)), (11, .int (bx_sum (Z 0 9) 10)), (10, .int (1000 + sWt (Z 0) pu_ ex_ wt_ (nI mi_))), (9, .int (sReason (Z 0) pu_ ex_ wt_ (nI mi_))), (8, .int (nI mi_)), (7, .int wt_), (6, .int (nI pu_)), (5, .int (nI ex_)), (4, .int (nI n)), (3, .int (nI yy)), (2, .int (nI hw_)), (0, .ref (x 12 2)), (1, .int (nI X))]) hC dL_act_252 (by decide) rfl ?_
            refine pg_aload_n (pc := 254) hC dL_act_254 11 rfl rfl ?_
            refine pg_bipush (pc := 255) (v := 15) hC dL_act_255 (by decide) ?_
            refine pg_callVYi (pc := 257) (As := [.int 15]) (rest := []) (v2 := bx_sum (Z 0 6) 10) hC dL_act_257 (cX4_count_c l hok n hn hn12 15 _ rfl) (tC _ _).2.2.2.2.2.2.2.2.2.2.2.2.2.2.2.1 (cwV 1 hC.2.2.2.2.1 gL_act_X4_count rfl rfl rfl (by decide +kernel) ⟨Nat.le_of_ble_eq_true rfl, Nat.le_of_ble_eq_true rfl⟩) (ok_mem hok (by decide)) (ok_Xo hok) rfl rfl rfl rfl (Nat.le_of_ble_eq_true rfl) (Nat.zero_le _) (Nat.zero_le _) ?_
            refine pg_istore (pc := 260) (vs' := [(13, .int (bx_sum (Z 0 6) 10)), (12, .int (bx_sum (Z 0 7) 10 + bx_sum (Z 0 8) 10)), (11, .int (bx_sum (Z 0 9) 10)), (10, .int (1000 + sWt (Z 0) pu_ ex_ wt_ (nI mi_))), (9, .int (sReason (Z 0) pu_ ex_ wt_ (nI mi_))), (8, .int (nI mi_)), (7, .int wt_), (6, .int (nI pu_)), (5, .int (nI ex_)), (4, .int (nI n)), (3, .int (nI yy)), (2, .int (nI hw_)), (0, .ref (x 12 2)), (1, .int (nI X))]) hC dL_act_260 (by decide) rfl ?_
            refine pg_aload_n (pc := 262) hC dL_act_262 12 rfl rfl ?_
            refine pg_iload (pc := 263) hC dL_act_263 7 rfl ?_
            refine pg_iload (pc := 265) hC dL_act_265 8 rfl ?_
            refine pg_iload (pc := 267) hC dL_act_267 6 rfl ?_
            refine pg_iload (pc := 269) hC dL_act_269 5 rfl ?_
            refine pg_callVXi (pc := 271) (As := [.int (nI pu_), .int (nI ex_), .int wt_, .int (nI mi_)]) (rest := []) (v2 := sReason (Z 0) pu_ ex_ wt_ (nI mi_)) (Z3 := Zb) hC dL_act_271 (cX4_offer_c l hok n hn hn12 nx kp hnx hnx6 hkp hkp6 (nI pu_) (nI ex_) wt_ (nI mi_)) ⟨ac_why hte hpu hex12, (ac_off hte hpu hex12).trans hZb.symm⟩ (cwV 4 hC.2.2.2.2.1 gL_act_X4_offer rfl rfl rfl (by decide +kernel) ⟨Nat.le_of_ble_eq_true rfl, Nat.le_of_ble_eq_true rfl⟩) (ok_mem hok (by decide)) (ok_Xo hok) rfl rfl rfl rfl (Nat.le_of_ble_eq_true rfl) (Nat.zero_le _) (Nat.zero_le _) (fun f8 hokw8 => ?_)
            refine pg_istore (pc := 274) (vs' := [(14, .int (sReason (Z 0) pu_ ex_ wt_ (nI mi_))), (13, .int (bx_sum (Z 0 6) 10)), (12, .int (bx_sum (Z 0 7) 10 + bx_sum (Z 0 8) 10)), (11, .int (bx_sum (Z 0 9) 10)), (10, .int (1000 + sWt (Z 0) pu_ ex_ wt_ (nI mi_))), (9, .int (sReason (Z 0) pu_ ex_ wt_ (nI mi_))), (8, .int (nI mi_)), (7, .int wt_), (6, .int (nI pu_)), (5, .int (nI ex_)), (4, .int (nI n)), (3, .int (nI yy)), (2, .int (nI hw_)), (0, .ref (x 12 2)), (1, .int (nI X))]) hC dL_act_274 (by decide) rfl ?_
            refine pg_iload (pc := 276) hC dL_act_276 0 rfl ?_
            refine pg_iload (pc := 278) hC dL_act_278 5 rfl ?_
            refine pg_icmp_ne (pc := 280) hC 430 dL_act_280 (by decide)  (fun c52 => False.elim (c52 rfl)) (fun c52 => ?_)
            refine pg_iload (pc := 283) hC dL_act_283 5 rfl ?_
            refine pg_if_lt (pc := 285) hC 430 dL_act_285 (by decide)  (fun c53 => False.elim (r0 c53)) (fun c53 => ?_)
            refine pg_iload (pc := 288) hC dL_act_288 5 rfl ?_
            refine pg_iconst (pc := 290) (v := 5) hC dL_act_290 (by decide) ?_
            refine pg_icmp_ge (pc := 291) hC 430 dL_act_291 (by decide)  (fun c54 => False.elim (r5 c54)) (fun c54 => ?_)
            refine pg_iload (pc := 294) hC dL_act_294 5 rfl ?_
            refine pg_join (pc := 296) (σ := Unit) (fun _ => True) 313 (fun _ => [(14, .int (sReason (Z 0) pu_ ex_ wt_ (nI mi_))), (13, .int (bx_sum (Z 0 6) 10)), (12, .int (bx_sum (Z 0 7) 10 + bx_sum (Z 0 8) 10)), (11, .int (bx_sum (Z 0 9) 10)), (10, .int (1000 + sWt (Z 0) pu_ ex_ wt_ (nI mi_))), (9, .int (sReason (Z 0) pu_ ex_ wt_ (nI mi_))), (8, .int (nI mi_)), (7, .int wt_), (6, .int (nI pu_)), (5, .int (nI ex_)), (4, .int (nI n)), (3, .int (nI yy)), (2, .int (nI hw_)), (0, .ref (x 12 2)), (1, .int (nI X))]) (fun _ => []) (fun _ => f8) ?_ (fun j55 => ?_)
            · skip
              intro _ _
              try dsimp only
              refine pg_iload (pc := 313) hC dL_act_313 5 rfl ?_
              refine pg_iconst (pc := 315) (v := 4) hC dL_act_315 (by decide) ?_
              refine pg_join (pc := 316) (σ := Unit) (fun _ => True) 333 (fun _ => [(14, .int (sReason (Z 0) pu_ ex_ wt_ (nI mi_))), (13, .int (bx_sum (Z 0 6) 10)), (12, .int (bx_sum (Z 0 7) 10 + bx_sum (Z 0 8) 10)), (11, .int (bx_sum (Z 0 9) 10)), (10, .int (1000 + sWt (Z 0) pu_ ex_ wt_ (nI mi_))), (9, .int (sReason (Z 0) pu_ ex_ wt_ (nI mi_))), (8, .int (nI mi_)), (7, .int wt_), (6, .int (nI pu_)), (5, .int (nI ex_)), (4, .int (nI n)), (3, .int (nI yy)), (2, .int (nI hw_)), (0, .ref (x 12 2)), (1, .int (nI X))]) (fun _ => []) (fun _ => f8) ?_ (fun j56 => ?_)
              · skip
                intro _ _
                try dsimp only
                refine pg_aload_n (pc := 333) hC dL_act_333 13 rfl rfl ?_
                refine pg_bipush (pc := 334) (v := 6) hC dL_act_334 (by decide) ?_
                refine pg_callVYi (pc := 336) (As := [.int 6]) (rest := []) (v2 := bx_sum (Zb 0 9) 10) hC dL_act_336 (cX4_count_c l hokw8 (n) iZb.nn iZb.n12 6 _ rfl) (tC _ _).2.2.2.2.2.2.1 (cwV 1 hC.2.2.2.2.1 gL_act_X4_count rfl rfl rfl (by decide +kernel) ⟨Nat.le_of_ble_eq_true rfl, Nat.le_of_ble_eq_true rfl⟩) (ok_mem hokw8 (by decide)) (ok_Xo hokw8) rfl rfl rfl rfl (Nat.le_of_ble_eq_true rfl) (Nat.zero_le _) (Nat.zero_le _) ?_
                refine pg_iload (pc := 339) hC dL_act_339 3 rfl ?_
                refine pg_iload (pc := 341) hC dL_act_341 5 rfl ?_
                refine pg_join (pc := 343) (σ := Unit) (fun _ => True) 355 (fun _ => [(14, .int (sReason (Z 0) pu_ ex_ wt_ (nI mi_))), (13, .int (bx_sum (Z 0 6) 10)), (12, .int (bx_sum (Z 0 7) 10 + bx_sum (Z 0 8) 10)), (11, .int (bx_sum (Z 0 9) 10)), (10, .int (1000 + sWt (Z 0) pu_ ex_ wt_ (nI mi_))), (9, .int (sReason (Z 0) pu_ ex_ wt_ (nI mi_))), (8, .int (nI mi_)), (7, .int wt_), (6, .int (nI pu_)), (5, .int (nI ex_)), (4, .int (nI n)), (3, .int (nI yy)), (2, .int (nI hw_)), (0, .ref (x 12 2)), (1, .int (nI X))]) (fun _ => []) (fun _ => f8) ?_ (fun j57 => ?_)
                · skip
                  intro _ _
                  try dsimp only
                  refine pg_aload_n (pc := 355) hC dL_act_355 13 rfl rfl ?_
                  refine pg_bipush (pc := 356) (v := 13) hC dL_act_356 (by decide) ?_
                  refine pg_callVYi (pc := 358) (As := [.int 13]) (rest := []) (v2 := bx_sum (Zb 0 7) 10 + bx_sum (Zb 0 8) 10) hC dL_act_358 (cX4_count_c l hokw8 (n) iZb.nn iZb.n12 13 _ rfl) (tC _ _).2.2.2.2.2.2.2.2.2.2.2.2.2.1 (cwV 1 hC.2.2.2.2.1 gL_act_X4_count rfl rfl rfl (by decide +kernel) ⟨Nat.le_of_ble_eq_true rfl, Nat.le_of_ble_eq_true rfl⟩) (ok_mem hokw8 (by decide)) (ok_Xo hokw8) rfl rfl rfl rfl (Nat.le_of_ble_eq_true rfl) (Nat.zero_le _) (Nat.zero_le _) ?_
                  refine pg_iload (pc := 361) hC dL_act_361 2 rfl ?_
                  refine pg_iload (pc := 363) hC dL_act_363 5 rfl ?_
                  refine pg_join (pc := 365) (σ := Unit) (fun _ => True) 384 (fun _ => [(14, .int (sReason (Z 0) pu_ ex_ wt_ (nI mi_))), (13, .int (bx_sum (Z 0 6) 10)), (12, .int (bx_sum (Z 0 7) 10 + bx_sum (Z 0 8) 10)), (11, .int (bx_sum (Z 0 9) 10)), (10, .int (1000 + sWt (Z 0) pu_ ex_ wt_ (nI mi_))), (9, .int (sReason (Z 0) pu_ ex_ wt_ (nI mi_))), (8, .int (nI mi_)), (7, .int wt_), (6, .int (nI pu_)), (5, .int (nI ex_)), (4, .int (nI n)), (3, .int (nI yy)), (2, .int (nI hw_)), (0, .ref (x 12 2)), (1, .int (nI X))]) (fun _ => []) (fun _ => f8) ?_ (fun j58 => ?_)
                  · skip
                    intro _ _
                    try dsimp only
                    refine pg_aload_n (pc := 384) hC dL_act_384 13 rfl rfl ?_
                    refine pg_bipush (pc := 385) (v := 15) hC dL_act_385 (by decide) ?_
                    refine pg_callVYi (pc := 387) (As := [.int 15]) (rest := []) (v2 := bx_sum (Zb 0 6) 10) hC dL_act_387 (cX4_count_c l hokw8 (n) iZb.nn iZb.n12 15 _ rfl) (tC _ _).2.2.2.2.2.2.2.2.2.2.2.2.2.2.2.1 (cwV 1 hC.2.2.2.2.1 gL_act_X4_count rfl rfl rfl (by decide +kernel) ⟨Nat.le_of_ble_eq_true rfl, Nat.le_of_ble_eq_true rfl⟩) (ok_mem hokw8 (by decide)) (ok_Xo hokw8) rfl rfl rfl rfl (Nat.le_of_ble_eq_true rfl) (Nat.zero_le _) (Nat.zero_le _) ?_
                    refine pg_iload (pc := 390) hC dL_act_390 1 rfl ?_
                    refine pg_icmp_gt (pc := 392) hC 430 dL_act_392 (by decide)  (fun c59 => False.elim (c15a c59)) (fun c59 => ?_)
                    refine pg_aload_n (pc := 395) hC dL_act_395 13 rfl rfl ?_
                    refine pg_bipush (pc := 396) (v := 15) hC dL_act_396 (by decide) ?_
                    refine pg_callVYi (pc := 398) (As := [.int 15]) (rest := []) (v2 := bx_sum (Zb 0 6) 10) hC dL_act_398 (cX4_count_c l hokw8 (n) iZb.nn iZb.n12 15 _ rfl) (tC _ _).2.2.2.2.2.2.2.2.2.2.2.2.2.2.2.1 (cwV 1 hC.2.2.2.2.1 gL_act_X4_count rfl rfl rfl (by decide +kernel) ⟨Nat.le_of_ble_eq_true rfl, Nat.le_of_ble_eq_true rfl⟩) (ok_mem hokw8 (by decide)) (ok_Xo hokw8) rfl rfl rfl rfl (Nat.le_of_ble_eq_true rfl) (Nat.zero_le _) (Nat.zero_le _) ?_
                    refine pg_iload (pc := 401) hC dL_act_401 1 rfl ?_
                    refine pg_iconst (pc := 403) (v := 2) hC dL_act_403 (by decide) ?_
                    refine pg_isub (pc := 404) (v := (bx_sum (Z 0 6) 10) - 2) hC dL_act_404 rfl ?_
                    refine pg_icmp_lt (pc := 405) hC 430 dL_act_405 (by decide)  (fun c60 => False.elim (c15b c60)) (fun c60 => ?_)
                    refine pg_iload (pc := 408) hC dL_act_408 7 rfl ?_
                    refine pg_bipush (pc := 410) (v := (-6)) hC dL_act_410 (by decide) ?_
                    refine pg_icmp_ne (pc := 412) hC 426 dL_act_412 (by decide)  (fun c61 => ?_) (fun c61 => ?_)
                    · skip
                      refine pg_iconst (pc := 426) (v := 1) hC dL_act_426 (by decide) ?_
                      refine pg_goto (pc := 427) hC 432 dL_act_427 (by decide) ?_
                      exact pg_iret (pc := 432) hC dL_act_432 rfl ⟨rfl, _, hokw8, Or.inr ⟨rfl, _, _, hZb, jZb⟩⟩
                    · skip
                      refine pg_aload_n (pc := 415) hC dL_act_415 13 rfl rfl ?_
                      refine pg_bipush (pc := 416) (v := 15) hC dL_act_416 (by decide) ?_
                      refine pg_callVYi (pc := 418) (As := [.int 15]) (rest := []) (v2 := bx_sum (Zb 0 6) 10) hC dL_act_418 (cX4_count_c l hokw8 (n) iZb.nn iZb.n12 15 _ rfl) (tC _ _).2.2.2.2.2.2.2.2.2.2.2.2.2.2.2.1 (cwV 1 hC.2.2.2.2.1 gL_act_X4_count rfl rfl rfl (by decide +kernel) ⟨Nat.le_of_ble_eq_true rfl, Nat.le_of_ble_eq_true rfl⟩) (ok_mem hokw8 (by decide)) (ok_Xo hokw8) rfl rfl rfl rfl (Nat.le_of_ble_eq_true rfl) (Nat.zero_le _) (Nat.zero_le _) ?_
                      refine pg_iload (pc := 421) hC dL_act_421 1 rfl ?_
                      refine pg_icmp_ne (pc := 423) hC 430 dL_act_423 (by decide)  (fun c62 => False.elim (c62 (c15c c61))) (fun c62 => ?_)
                      refine pg_iconst (pc := 426) (v := 1) hC dL_act_426 (by decide) ?_
                      refine pg_goto (pc := 427) hC 432 dL_act_427 (by decide) ?_
                      exact pg_iret (pc := 432) hC dL_act_432 rfl ⟨rfl, _, hokw8, Or.inr ⟨rfl, _, _, hZb, jZb⟩⟩
                  refine pg_if_le (pc := 365) hC 379 dL_act_365 (by decide)  (fun c63 => ?_) (fun c63 => ?_)
                  · skip
                    refine pg_iconst (pc := 379) (v := 0) hC dL_act_379 (by decide) ?_
                    refine pg_iadd (pc := 380) (v := (bx_sum (Z 0 7) 10 + bx_sum (Z 0 8) 10) + 0) hC dL_act_380 rfl ?_
                    refine pg_icmp_ne (pc := 381) hC 430 dL_act_381 (by decide)  (fun c64 => False.elim (c64 (s130 c63))) (fun c64 => ?_)
                    exact j58 () trivial
                  · skip
                    refine pg_aload_n (pc := 368) hC dL_act_368 13 rfl rfl ?_
                    refine pg_iconst (pc := 369) (v := 3) hC dL_act_369 (by decide) ?_
                    refine pg_callVYi (pc := 370) (As := [.int 3]) (rest := [.int (bx_sum (Z 0 7) 10 + bx_sum (Z 0 8) 10), .int (bx_sum (Zb 0 7) 10 + bx_sum (Zb 0 8) 10)]) (v2 := Z 0 0 3) hC dL_act_370 (cX4_count_c l hokw8 (n) iZb.nn iZb.n12 3 _ rfl) ((tC _ _).2.2.2.1.trans (by rw [b0])) (cwV 1 hC.2.2.2.2.1 gL_act_X4_count rfl rfl rfl (by decide +kernel) ⟨Nat.le_of_ble_eq_true rfl, Nat.le_of_ble_eq_true rfl⟩) (ok_mem hokw8 (by decide)) (ok_Xo hokw8) rfl rfl rfl rfl (Nat.le_of_ble_eq_true rfl) (Nat.zero_le _) (Nat.zero_le _) ?_
                    refine pg_iload (pc := 373) hC dL_act_373 6 rfl ?_
                    refine pg_imul (pc := 375) (v := (Z 0 0 3) * (nI mi_)) hC dL_act_375 rfl ?_
                    refine pg_goto (pc := 376) hC 380 dL_act_376 (by decide) ?_
                    refine pg_iadd (pc := 380) (v := (bx_sum (Z 0 7) 10 + bx_sum (Z 0 8) 10) + ((Z 0 0 3) * (nI mi_))) hC dL_act_380 rfl ?_
                    refine pg_icmp_ne (pc := 381) hC 430 dL_act_381 (by decide)  (fun c65 => False.elim (c65 (s13n c63))) (fun c65 => ?_)
                    exact j58 () trivial
                refine pg_if_ne (pc := 343) hC 350 dL_act_343 (by decide)  (fun c66 => ?_) (fun c66 => ?_)
                · skip
                  refine pg_iconst (pc := 350) (v := 0) hC dL_act_350 (by decide) ?_
                  refine pg_iadd (pc := 351) (v := (bx_sum (Z 0 9) 10) + 0) hC dL_act_351 rfl ?_
                  refine pg_icmp_ne (pc := 352) hC 430 dL_act_352 (by decide)  (fun c67 => False.elim (c67 (s6n c66))) (fun c67 => ?_)
                  exact j57 () trivial
                · skip
                  refine pg_iconst (pc := 346) (v := 1) hC dL_act_346 (by decide) ?_
                  refine pg_goto (pc := 347) hC 351 dL_act_347 (by decide) ?_
                  refine pg_iadd (pc := 351) (v := (bx_sum (Z 0 9) 10) + 1) hC dL_act_351 rfl ?_
                  refine pg_icmp_ne (pc := 352) hC 430 dL_act_352 (by decide)  (fun c68 => False.elim (c68 (s60 c66))) (fun c68 => ?_)
                  exact j57 () trivial
              refine pg_icmp_ne (pc := 316) hC 333 dL_act_316 (by decide)  (fun c69 => ?_) (fun c69 => ?_)
              · skip
                exact j56 () trivial
              · skip
                refine pg_iload (pc := 319) hC dL_act_319 4 rfl ?_
                refine pg_sipush (pc := 321) (v := 1000) hC dL_act_321 (by decide) ?_
                refine pg_aload_n (pc := 324) hC dL_act_324 13 rfl rfl ?_
                refine pg_iconst (pc := 325) (v := 0) hC dL_act_325 (by decide) ?_
                refine pg_callVYi (pc := 326) (As := [.int 0]) (rest := [.int 1000, .int (1000 + sWt (Z 0) pu_ ex_ wt_ (nI mi_))]) (v2 := Z 0 0 0) hC dL_act_326 (cX4_count_c l hokw8 (n) iZb.nn iZb.n12 0 _ rfl) ((tC _ _).1.trans (by rw [b0])) (cwV 1 hC.2.2.2.2.1 gL_act_X4_count rfl rfl rfl (by decide +kernel) ⟨Nat.le_of_ble_eq_true rfl, Nat.le_of_ble_eq_true rfl⟩) (ok_mem hokw8 (by decide)) (ok_Xo hokw8) rfl rfl rfl rfl (Nat.le_of_ble_eq_true rfl) (Nat.zero_le _) (Nat.zero_le _) ?_
                refine pg_iadd (pc := 329) (v := 1000 + (Z 0 0 0)) hC dL_act_329 rfl ?_
                refine pg_icmp_ge (pc := 330) hC 430 dL_act_330 (by decide)  (fun c70 => False.elim (r7 c69 c70)) (fun c70 => ?_)
                exact j56 () trivial
            refine pg_if_gt (pc := 296) hC 313 dL_act_296 (by decide)  (fun c71 => ?_) (fun c71 => ?_)
            · skip
              exact j55 () trivial
            · skip
              refine pg_iload (pc := 299) hC dL_act_299 4 rfl ?_
              refine pg_sipush (pc := 301) (v := 1000) hC dL_act_301 (by decide) ?_
              refine pg_aload_n (pc := 304) hC dL_act_304 13 rfl rfl ?_
              refine pg_iconst (pc := 305) (v := 0) hC dL_act_305 (by decide) ?_
              refine pg_callVYi (pc := 306) (As := [.int 0]) (rest := [.int 1000, .int (1000 + sWt (Z 0) pu_ ex_ wt_ (nI mi_))]) (v2 := Z 0 0 0) hC dL_act_306 (cX4_count_c l hokw8 (n) iZb.nn iZb.n12 0 _ rfl) ((tC _ _).1.trans (by rw [b0])) (cwV 1 hC.2.2.2.2.1 gL_act_X4_count rfl rfl rfl (by decide +kernel) ⟨Nat.le_of_ble_eq_true rfl, Nat.le_of_ble_eq_true rfl⟩) (ok_mem hokw8 (by decide)) (ok_Xo hokw8) rfl rfl rfl rfl (Nat.le_of_ble_eq_true rfl) (Nat.zero_le _) (Nat.zero_le _) ?_
              refine pg_iadd (pc := 309) (v := 1000 + (Z 0 0 0)) hC dL_act_309 rfl ?_
              refine pg_icmp_lt (pc := 310) hC 430 dL_act_310 (by decide)  (fun c72 => False.elim (r6 c71 c72)) (fun c72 => ?_)
              exact j55 () trivial
          refine pg_if_ne (pc := 196) hC 204 dL_act_196 (by decide)  (fun c73 => ?_) (fun c73 => ?_)
          · skip
            refine pg_bipush (pc := 204) (v := 12) hC dL_act_204 (by decide) ?_
            refine pg_irem (pc := 206) (v := nI ((yy / 3240) % 12)) hC dL_act_206 (by decide) (pk_rem (a := yy / 3240) (d := 12) (by omega) (by omega) (by omega)) ?_
            refine pg_iadd (pc := 207) (v := nI (1 + ((yy / 3240) % 12))) hC dL_act_207 (nI_add (1) ((yy / 3240) % 12)) ?_
            refine pg_istore (pc := 208) (vs' := [(8, .int (nI (1 + ((yy / 3240) % 12)))), (7, .int wt_), (6, .int (nI pu_)), (5, .int (nI ex_)), (4, .int (nI n)), (3, .int (nI yy)), (2, .int (nI hw_)), (0, .ref (x 12 2)), (1, .int (nI X))]) hC dL_act_208 (by decide) rfl ?_
            exact j51 (1 + ((yy / 3240) % 12)) (by omega)
          · skip
            refine pg_bipush (pc := 199) (v := 99) hC dL_act_199 (by decide) ?_
            refine pg_goto (pc := 201) hC 206 dL_act_201 (by decide) ?_
            refine pg_irem (pc := 206) (v := nI ((yy / 3240) % 99)) hC dL_act_206 (by decide) (pk_rem (a := yy / 3240) (d := 99) (by omega) (by omega) (by omega)) ?_
            refine pg_iadd (pc := 207) (v := nI (1 + ((yy / 3240) % 99))) hC dL_act_207 (nI_add (1) ((yy / 3240) % 99)) ?_
            refine pg_istore (pc := 208) (vs' := [(8, .int (nI (1 + ((yy / 3240) % 99)))), (7, .int wt_), (6, .int (nI pu_)), (5, .int (nI ex_)), (4, .int (nI n)), (3, .int (nI yy)), (2, .int (nI hw_)), (0, .ref (x 12 2)), (1, .int (nI X))]) hC dL_act_208 (by decide) rfl ?_
            exact j51 (1 + ((yy / 3240) % 99)) (by omega)
        refine pg_if_ne (pc := 161) hC 169 dL_act_161 (by decide)  (fun c74 => ?_) (fun c74 => ?_)
        · skip
          refine pg_iload (pc := 169) hC dL_act_169 0 rfl ?_
          refine pg_iconst (pc := 171) (v := 1) hC dL_act_171 (by decide) ?_
          refine pg_iadd (pc := 172) (v := nI (pu_ + 1)) hC dL_act_172 (nI_add (pu_) (1)) ?_
          refine pg_iload_n (pc := 173) hC dL_act_173 3 rfl rfl ?_
          refine pg_sipush (pc := 174) (v := 360) hC dL_act_174 (by decide) ?_
          refine pg_idiv (pc := 177) (v := nI (yy / 360)) hC dL_act_177 (by decide) (pk_div (a := yy) (d := 360) (by omega) (by omega) (by omega)) ?_
          refine pg_bipush (pc := 178) (v := 9) hC dL_act_178 (by decide) ?_
          refine pg_irem (pc := 180) (v := nI ((yy / 360) % 9)) hC dL_act_180 (by decide) (pk_rem (a := yy / 360) (d := 9) (by omega) (by omega) (by omega)) ?_
          refine pg_iadd (pc := 181) (v := nI (pu_ + 1 + ((yy / 360) % 9))) hC dL_act_181 (nI_add (pu_ + 1) ((yy / 360) % 9)) ?_
          refine pg_bipush (pc := 182) (v := 10) hC dL_act_182 (by decide) ?_
          refine pg_irem (pc := 184) (v := nI ((pu_ + 1 + ((yy / 360) % 9)) % 10)) hC dL_act_184 (by decide) (pk_rem (a := pu_ + 1 + ((yy / 360) % 9)) (d := 10) (by omega) (by omega) (by omega)) ?_
          refine pg_istore (pc := 185) (vs' := [(7, .int (nI ((pu_ + 1 + ((yy / 360) % 9)) % 10))), (6, .int (nI pu_)), (5, .int (nI ex_)), (4, .int (nI n)), (3, .int (nI yy)), (2, .int (nI hw_)), (0, .ref (x 12 2)), (1, .int (nI X))]) hC dL_act_185 (by decide) rfl ?_
          exact j50 _ (Or.inr ⟨(pu_ + 1 + ((yy / 360) % 9)) % 10, by omega, rfl, by omega⟩)
        · skip
          refine pg_bipush (pc := 164) (v := (-6)) hC dL_act_164 (by decide) ?_
          refine pg_goto (pc := 166) hC 185 dL_act_166 (by decide) ?_
          refine pg_istore (pc := 185) (vs' := [(7, .int (-6)), (6, .int (nI pu_)), (5, .int (nI ex_)), (4, .int (nI n)), (3, .int (nI yy)), (2, .int (nI hw_)), (0, .ref (x 12 2)), (1, .int (nI X))]) hC dL_act_185 (by decide) rfl ?_
          exact j50 (-6) (Or.inl rfl)
    · skip
      exact j1 () trivial
