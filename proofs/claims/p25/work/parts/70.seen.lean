abbrev rmL_seen : Room := { frames := 5, cells := 0, slots := 0, locals := 111 }
set_option maxHeartbeats 4000000 in
set_option maxRecDepth 20000 in
theorem cL_seen_c (l : Launch) {κ : pv_Kt} {L : List Nat} {f : Nat → va_E} {x : Nat → Nat → Nat} {Z : Nat → Nat → Nat → Int32} (hok : pv_ok κ x L f Z) (n : Nat) (hn : Z 0 1 0 = nI n) (hn12 : n ≤ 12)  : pv_Ml l κ yL_seen wsL_seen rmL_seen L f [.ref (x 12 2)] 0 0 (pv_Rl L f (sSeen (Z 0) n)) := by
  refine pv_startL (cc := cL_seen) (maxL := 4) (ret := (some .long)) (by decide) rfl (Nat.le_of_ble_eq_true rfl) (fun A0 P0 E0 S0 M0 a0 B0 T0 C0 hC => ?_)
  refine pg_sub (vs' := [(0, .ref (x 12 2))]) [0] rfl ?_
  refine pg_ldc2 (pc := 0) (v := 197) hC dL_seen_0 (List.mem_of_getElem? (i := 1) rfl) ?_
  refine pg_lstore_n (pc := 3) (vs' := [(1, .long (197)), (0, .ref (x 12 2))]) hC dL_seen_3 rfl (by decide) rfl ?_
  refine pg_iconst (pc := 4) (v := 0) hC dL_seen_4 (by decide) ?_
  refine pg_istore_n (pc := 5) (vs' := [(3, .int 0), (1, .long (197)), (0, .ref (x 12 2))]) hC dL_seen_5 rfl (by decide) rfl ?_
  refine pg_sub (vs' := [(0, .ref (x 12 2)), (1, .long (197)), (3, .int 0)]) [2, 1, 0] rfl ?_
  refine pg_loop (pc := 6) (σ := Nat) (I := fun q => match q with | k => k ≤ 18) (μ := fun q => match q with | k => 18 - k) (VS := fun q => match q with | k => [(0, .ref (x 12 2)), (1, .long (sn1 (Z 0) n k)), (3, .int (nI k))]) (FF := fun q => match q with | k => f) ?_ (0) (Nat.zero_le _)
  intro q hI ih1
  obtain ⟨k, rfl⟩ : ∃ z, z = q := ⟨_, rfl⟩
  dsimp only at hI ih1 ⊢
  have hI2 := hI
  obtain hkk := hI
  refine pg_iload_n (pc := 6) hC dL_seen_6 2 rfl rfl ?_
  refine pg_bipush (pc := 7) (v := 18) hC dL_seen_7 (by decide) ?_
  refine pg_icmp_geN (pc := 9) hC 31 dL_seen_9 (by decide) (k) (18) rfl rfl (by omega) (by omega) (fun c2 => ?_) (fun c2 => ?_)
  · skip
    have e : k = 18 := by omega
    subst e
    refine pg_iconst (pc := 31) (v := 0) hC dL_seen_31 (by decide) ?_
    refine pg_istore_n (pc := 32) (vs' := [(3, .int 0), (0, .ref (x 12 2)), (1, .long (sn1 (Z 0) n 18))]) hC dL_seen_32 rfl (by decide) rfl ?_
    refine pg_sub (vs' := [(0, .ref (x 12 2)), (1, .long (sn1 (Z 0) n 18)), (3, .int 0)]) [1, 2, 0] rfl ?_
    refine pg_loop (pc := 33) (σ := Nat) (I := fun q => match q with | m => m ≤ 80) (μ := fun q => match q with | m => 80 - m) (VS := fun q => match q with | m => [(0, .ref (x 12 2)), (1, .long (sn2 (Z 0) n m)), (3, .int (nI m))]) (FF := fun q => match q with | m => f) ?_ (0) (Nat.zero_le _)
    intro q hI ih3
    obtain ⟨m, rfl⟩ : ∃ z, z = q := ⟨_, rfl⟩
    dsimp only at hI ih3 ⊢
    have hI2 := hI
    obtain hkm := hI
    refine pg_iload_n (pc := 33) hC dL_seen_33 2 rfl rfl ?_
    refine pg_bipush (pc := 34) (v := 80) hC dL_seen_34 (by decide) ?_
    refine pg_icmp_geN (pc := 36) hC 82 dL_seen_36 (by decide) (m) (80) rfl rfl (by omega) (by omega) (fun c4 => ?_) (fun c4 => ?_)
    · skip
      have e : m = 80 := by omega
      subst e
      refine pg_iconst (pc := 82) (v := 0) hC dL_seen_82 (by decide) ?_
      refine pg_istore_n (pc := 83) (vs' := [(3, .int 0), (0, .ref (x 12 2)), (1, .long (sn2 (Z 0) n 80))]) hC dL_seen_83 rfl (by decide) rfl ?_
      refine pg_sub (vs' := [(0, .ref (x 12 2)), (1, .long (sn2 (Z 0) n 80)), (3, .int 0)]) [1, 2, 0] rfl ?_
      refine pg_loop (pc := 84) (σ := Nat) (I := fun q => match q with | r => r ≤ 60) (μ := fun q => match q with | r => 60 - r) (VS := fun q => match q with | r => [(0, .ref (x 12 2)), (1, .long (sn3 (Z 0) n r)), (3, .int (nI r))]) (FF := fun q => match q with | r => f) ?_ (0) (Nat.zero_le _)
      intro q hI ih5
      obtain ⟨r, rfl⟩ : ∃ z, z = q := ⟨_, rfl⟩
      dsimp only at hI ih5 ⊢
      have hI2 := hI
      obtain hkr := hI
      refine pg_iload_n (pc := 84) hC dL_seen_84 2 rfl rfl ?_
      refine pg_bipush (pc := 85) (v := 60) hC dL_seen_85 (by decide) ?_
      refine pg_icmp_geN (pc := 87) hC 131 dL_seen_87 (by decide) (r) (60) rfl rfl (by omega) (by omega) (fun c6 => ?_) (fun c6 => ?_)
      · skip
        have e : r = 60 := by omega
        subst e
        refine pg_lload_n (pc := 131) hC dL_seen_131 1 rfl rfl ?_
        exact pg_lret (pc := 132) hC dL_seen_132 rfl ⟨rfl, rfl⟩
      · skip
        refine pg_ldc2 (pc := 90) (v := 31) hC dL_seen_90 (List.mem_of_getElem? (i := 2) rfl) ?_
        refine pg_ldc2 (pc := 93) (v := 31) hC dL_seen_93 (List.mem_of_getElem? (i := 2) rfl) ?_
        refine pg_lload_n (pc := 96) hC dL_seen_96 1 rfl rfl ?_
        refine pg_lmul (pc := 97) (v := 31 * (sn3 (Z 0) n r)) hC dL_seen_97 rfl ?_
        refine pg_aload_n (pc := 98) hC dL_seen_98 0 rfl rfl ?_
        refine pg_iload_n (pc := 99) hC dL_seen_99 2 rfl rfl ?_
        refine pg_iconst (pc := 100) (v := 5) hC dL_seen_100 (by decide) ?_
        refine pg_idiv (pc := 101) (v := nI (r / 5)) hC dL_seen_101 (by decide) (pk_div (a := r) (d := 5) (by omega) (by omega) (by omega)) ?_
        refine pg_iload_n (pc := 102) hC dL_seen_102 2 rfl rfl ?_
        refine pg_iconst (pc := 103) (v := 5) hC dL_seen_103 (by decide) ?_
        refine pg_irem (pc := 104) (v := nI (r % 5)) hC dL_seen_104 (by decide) (pk_rem (a := r) (d := 5) (by omega) (by omega) (by omega)) ?_
        refine pg_callVRi (pc := 105) (As := [.int (nI (r / 5)), .int (nI (r % 5))]) (rest := [.long (31 * (sn3 (Z 0) n r)), .long (31)]) hC dL_seen_105 (cX4_excuse_c l hok n hn hn12 (nI (r / 5)) (nI (r % 5))) (cwV 2 hC.2.2.2.2.1 gL_seen_X4_excuse rfl rfl rfl (by decide +kernel) ⟨Nat.le_of_ble_eq_true rfl, Nat.le_of_ble_eq_true rfl⟩) (ok_mem hok (by decide)) (ok_Xo hok) rfl rfl rfl rfl (Nat.le_of_ble_eq_true rfl) (Nat.zero_le _) (Nat.zero_le _) ?_
        refine pg_i2l (pc := 108) (v := (tExcuse (Z 0) (nI (r / 5)) (nI (r % 5))).toInt64) hC dL_seen_108 rfl ?_
        refine pg_ladd (pc := 109) (v := (31 * (sn3 (Z 0) n r)) + ((tExcuse (Z 0) (nI (r / 5)) (nI (r % 5))).toInt64)) hC dL_seen_109 rfl ?_
        refine pg_lmul (pc := 110) (v := 31 * ((31 * (sn3 (Z 0) n r)) + ((tExcuse (Z 0) (nI (r / 5)) (nI (r % 5))).toInt64))) hC dL_seen_110 rfl ?_
        refine pg_aload_n (pc := 111) hC dL_seen_111 0 rfl rfl ?_
        refine pg_iload_n (pc := 112) hC dL_seen_112 2 rfl rfl ?_
        refine pg_bipush (pc := 113) (v := 10) hC dL_seen_113 (by decide) ?_
        refine pg_irem (pc := 115) (v := nI (r % 10)) hC dL_seen_115 (by decide) (pk_rem (a := r) (d := 10) (by omega) (by omega) (by omega)) ?_
        refine pg_iload_n (pc := 116) hC dL_seen_116 2 rfl rfl ?_
        refine pg_iconst (pc := 117) (v := 5) hC dL_seen_117 (by decide) ?_
        refine pg_idiv (pc := 118) (v := nI (r / 5)) hC dL_seen_118 (by decide) (pk_div (a := r) (d := 5) (by omega) (by omega) (by omega)) ?_
        refine pg_callVRi (pc := 119) (As := [.int (nI (r % 10)), .int (nI (r / 5))]) (rest := [.long (31 * ((31 * (sn3 (Z 0) n r)) + ((tExcuse (Z 0) (nI (r / 5)) (nI (r % 5))).toInt64)))]) hC dL_seen_119 (cX4_novelty_c l hok n hn hn12 (nI (r % 10)) (nI (r / 5))) (cwV 2 hC.2.2.2.2.1 gL_seen_X4_novelty rfl rfl rfl (by decide +kernel) ⟨Nat.le_of_ble_eq_true rfl, Nat.le_of_ble_eq_true rfl⟩) (ok_mem hok (by decide)) (ok_Xo hok) rfl rfl rfl rfl (Nat.le_of_ble_eq_true rfl) (Nat.zero_le _) (Nat.zero_le _) ?_
        refine pg_i2l (pc := 122) (v := (tNovelty (Z 0) (nI (r % 10)) (nI (r / 5))).toInt64) hC dL_seen_122 rfl ?_
        refine pg_ladd (pc := 123) (v := (31 * ((31 * (sn3 (Z 0) n r)) + ((tExcuse (Z 0) (nI (r / 5)) (nI (r % 5))).toInt64))) + ((tNovelty (Z 0) (nI (r % 10)) (nI (r / 5))).toInt64)) hC dL_seen_123 rfl ?_
        refine pg_lstore_n (pc := 124) (vs' := [(1, .long ((31 * ((31 * (sn3 (Z 0) n r)) + ((tExcuse (Z 0) (nI (r / 5)) (nI (r % 5))).toInt64))) + ((tNovelty (Z 0) (nI (r % 10)) (nI (r / 5))).toInt64))), (0, .ref (x 12 2)), (3, .int (nI r))]) hC dL_seen_124 rfl (by decide) rfl ?_
        refine pg_iinc (pc := 125) (v := nI (r + 1)) (vs' := [(3, .int (nI (r + 1))), (1, .long ((31 * ((31 * (sn3 (Z 0) n r)) + ((tExcuse (Z 0) (nI (r / 5)) (nI (r % 5))).toInt64))) + ((tNovelty (Z 0) (nI (r % 10)) (nI (r / 5))).toInt64))), (0, .ref (x 12 2))]) hC dL_seen_125 2 rfl (nI_add (r) 1) (by decide) rfl ?_
        refine pg_goto (pc := 128) hC 84 dL_seen_128 (by decide) ?_
        refine pg_sub (vs' := [(0, .ref (x 12 2)), (1, .long ((31 * ((31 * (sn3 (Z 0) n r)) + ((tExcuse (Z 0) (nI (r / 5)) (nI (r % 5))).toInt64))) + ((tNovelty (Z 0) (nI (r % 10)) (nI (r / 5))).toInt64))), (3, .int (nI (r + 1)))]) [2, 1, 0] rfl ?_
        refine pg_vs (vs' := [(0, .ref (x 12 2)), (1, .long (sn3 (Z 0) n (r + 1))), (3, .int (nI (r + 1)))]) (by rfl) ?_
        exact ih5 (r + 1) (by omega) (by omega)
    · skip
      refine pg_ldc2 (pc := 39) (v := 31) hC dL_seen_39 (List.mem_of_getElem? (i := 2) rfl) ?_
      refine pg_ldc2 (pc := 42) (v := 31) hC dL_seen_42 (List.mem_of_getElem? (i := 2) rfl) ?_
      refine pg_lload_n (pc := 45) hC dL_seen_45 1 rfl rfl ?_
      refine pg_lmul (pc := 46) (v := 31 * (sn2 (Z 0) n m)) hC dL_seen_46 rfl ?_
      refine pg_aload_n (pc := 47) hC dL_seen_47 0 rfl rfl ?_
      refine pg_iload_n (pc := 48) hC dL_seen_48 2 rfl rfl ?_
      refine pg_bipush (pc := 49) (v := 8) hC dL_seen_49 (by decide) ?_
      refine pg_idiv (pc := 51) (v := nI (m / 8)) hC dL_seen_51 (by decide) (pk_div (a := m) (d := 8) (by omega) (by omega) (by omega)) ?_
      refine pg_iload_n (pc := 52) hC dL_seen_52 2 rfl rfl ?_
      refine pg_bipush (pc := 53) (v := 8) hC dL_seen_53 (by decide) ?_
      refine pg_irem (pc := 55) (v := nI (m % 8)) hC dL_seen_55 (by decide) (pk_rem (a := m) (d := 8) (by omega) (by omega) (by omega)) ?_
      refine pg_callVRi (pc := 56) (As := [.int (nI (m / 8)), .int (nI (m % 8))]) (rest := [.long (31 * (sn2 (Z 0) n m)), .long (31)]) hC dL_seen_56 (cX4_pupil_c l hok (nI (m / 8)) (nI (m % 8))) (cwV 2 hC.2.2.2.2.1 gL_seen_X4_pupil rfl rfl rfl (by decide +kernel) ⟨Nat.le_of_ble_eq_true rfl, Nat.le_of_ble_eq_true rfl⟩) (ok_mem hok (by decide)) (ok_Xo hok) rfl rfl rfl rfl (Nat.le_of_ble_eq_true rfl) (Nat.zero_le _) (Nat.zero_le _) ?_
      refine pg_i2l (pc := 59) (v := (tPupil (Z 0) (nI (m / 8)) (nI (m % 8))).toInt64) hC dL_seen_59 rfl ?_
      refine pg_ladd (pc := 60) (v := (31 * (sn2 (Z 0) n m)) + ((tPupil (Z 0) (nI (m / 8)) (nI (m % 8))).toInt64)) hC dL_seen_60 rfl ?_
      refine pg_lmul (pc := 61) (v := 31 * ((31 * (sn2 (Z 0) n m)) + ((tPupil (Z 0) (nI (m / 8)) (nI (m % 8))).toInt64))) hC dL_seen_61 rfl ?_
      refine pg_aload_n (pc := 62) hC dL_seen_62 0 rfl rfl ?_
      refine pg_iload_n (pc := 63) hC dL_seen_63 2 rfl rfl ?_
      refine pg_bipush (pc := 64) (v := 6) hC dL_seen_64 (by decide) ?_
      refine pg_idiv (pc := 66) (v := nI (m / 6)) hC dL_seen_66 (by decide) (pk_div (a := m) (d := 6) (by omega) (by omega) (by omega)) ?_
      refine pg_iload_n (pc := 67) hC dL_seen_67 2 rfl rfl ?_
      refine pg_iconst (pc := 68) (v := 5) hC dL_seen_68 (by decide) ?_
      refine pg_irem (pc := 69) (v := nI (m % 5)) hC dL_seen_69 (by decide) (pk_rem (a := m) (d := 5) (by omega) (by omega) (by omega)) ?_
      refine pg_callVRi (pc := 70) (As := [.int (nI (m / 6)), .int (nI (m % 5))]) (rest := [.long (31 * ((31 * (sn2 (Z 0) n m)) + ((tPupil (Z 0) (nI (m / 8)) (nI (m % 8))).toInt64)))]) hC dL_seen_70 (cX4_excuse_c l hok n hn hn12 (nI (m / 6)) (nI (m % 5))) (cwV 2 hC.2.2.2.2.1 gL_seen_X4_excuse rfl rfl rfl (by decide +kernel) ⟨Nat.le_of_ble_eq_true rfl, Nat.le_of_ble_eq_true rfl⟩) (ok_mem hok (by decide)) (ok_Xo hok) rfl rfl rfl rfl (Nat.le_of_ble_eq_true rfl) (Nat.zero_le _) (Nat.zero_le _) ?_
      refine pg_i2l (pc := 73) (v := (tExcuse (Z 0) (nI (m / 6)) (nI (m % 5))).toInt64) hC dL_seen_73 rfl ?_
      refine pg_ladd (pc := 74) (v := (31 * ((31 * (sn2 (Z 0) n m)) + ((tPupil (Z 0) (nI (m / 8)) (nI (m % 8))).toInt64))) + ((tExcuse (Z 0) (nI (m / 6)) (nI (m % 5))).toInt64)) hC dL_seen_74 rfl ?_
      refine pg_lstore_n (pc := 75) (vs' := [(1, .long ((31 * ((31 * (sn2 (Z 0) n m)) + ((tPupil (Z 0) (nI (m / 8)) (nI (m % 8))).toInt64))) + ((tExcuse (Z 0) (nI (m / 6)) (nI (m % 5))).toInt64))), (0, .ref (x 12 2)), (3, .int (nI m))]) hC dL_seen_75 rfl (by decide) rfl ?_
      refine pg_iinc (pc := 76) (v := nI (m + 1)) (vs' := [(3, .int (nI (m + 1))), (1, .long ((31 * ((31 * (sn2 (Z 0) n m)) + ((tPupil (Z 0) (nI (m / 8)) (nI (m % 8))).toInt64))) + ((tExcuse (Z 0) (nI (m / 6)) (nI (m % 5))).toInt64))), (0, .ref (x 12 2))]) hC dL_seen_76 2 rfl (nI_add (m) 1) (by decide) rfl ?_
      refine pg_goto (pc := 79) hC 33 dL_seen_79 (by decide) ?_
      refine pg_sub (vs' := [(0, .ref (x 12 2)), (1, .long ((31 * ((31 * (sn2 (Z 0) n m)) + ((tPupil (Z 0) (nI (m / 8)) (nI (m % 8))).toInt64))) + ((tExcuse (Z 0) (nI (m / 6)) (nI (m % 5))).toInt64))), (3, .int (nI (m + 1)))]) [2, 1, 0] rfl ?_
      refine pg_vs (vs' := [(0, .ref (x 12 2)), (1, .long (sn2 (Z 0) n (m + 1))), (3, .int (nI (m + 1)))]) (by rfl) ?_
      exact ih3 (m + 1) (by omega) (by omega)
  · skip
    refine pg_ldc2 (pc := 12) (v := 31) hC dL_seen_12 (List.mem_of_getElem? (i := 2) rfl) ?_
    refine pg_lload_n (pc := 15) hC dL_seen_15 1 rfl rfl ?_
    refine pg_lmul (pc := 16) (v := 31 * (sn1 (Z 0) n k)) hC dL_seen_16 rfl ?_
    refine pg_aload_n (pc := 17) hC dL_seen_17 0 rfl rfl ?_
    refine pg_iload_n (pc := 18) hC dL_seen_18 2 rfl rfl ?_
    refine pg_callVYi (pc := 19) (As := [.int (nI k)]) (rest := [.long (31 * (sn1 (Z 0) n k))]) (v2 := tCount (Z 0) n 0 0 (nI k)) hC dL_seen_19 (cX4_count_c l hok n hn hn12 (nI k) _ rfl) (tCount_lo _ _ _ _ (by omega)) (cwV 1 hC.2.2.2.2.1 gL_seen_X4_count rfl rfl rfl (by decide +kernel) ⟨Nat.le_of_ble_eq_true rfl, Nat.le_of_ble_eq_true rfl⟩) (ok_mem hok (by decide)) (ok_Xo hok) rfl rfl rfl rfl (Nat.le_of_ble_eq_true rfl) (Nat.zero_le _) (Nat.zero_le _) ?_
    refine pg_i2l (pc := 22) (v := (tCount (Z 0) n 0 0 (nI k)).toInt64) hC dL_seen_22 rfl ?_
    refine pg_ladd (pc := 23) (v := (31 * (sn1 (Z 0) n k)) + ((tCount (Z 0) n 0 0 (nI k)).toInt64)) hC dL_seen_23 rfl ?_
    refine pg_lstore_n (pc := 24) (vs' := [(1, .long ((31 * (sn1 (Z 0) n k)) + ((tCount (Z 0) n 0 0 (nI k)).toInt64))), (0, .ref (x 12 2)), (3, .int (nI k))]) hC dL_seen_24 rfl (by decide) rfl ?_
    refine pg_iinc (pc := 25) (v := nI (k + 1)) (vs' := [(3, .int (nI (k + 1))), (1, .long ((31 * (sn1 (Z 0) n k)) + ((tCount (Z 0) n 0 0 (nI k)).toInt64))), (0, .ref (x 12 2))]) hC dL_seen_25 2 rfl (nI_add (k) 1) (by decide) rfl ?_
    refine pg_goto (pc := 28) hC 6 dL_seen_28 (by decide) ?_
    refine pg_sub (vs' := [(0, .ref (x 12 2)), (1, .long ((31 * (sn1 (Z 0) n k)) + ((tCount (Z 0) n 0 0 (nI k)).toInt64))), (3, .int (nI (k + 1)))]) [2, 1, 0] rfl ?_
    refine pg_vs (vs' := [(0, .ref (x 12 2)), (1, .long (sn1 (Z 0) n (k + 1))), (3, .int (nI (k + 1)))]) (by rfl) ?_
    exact ih1 (k + 1) (by omega) (by omega)
abbrev rmL_size : Room := { frames := 0, cells := 0, slots := 0, locals := 0 }
set_option maxHeartbeats 4000000 in
set_option maxRecDepth 20000 in
theorem cL_size_c (l : Launch) {κ : pv_Kt} {L : List Nat} {f : Nat → va_E} (v0 : Nat) (hv0 : v0 < 1024)  : pv_Mi l κ yL_size wsL_size rmL_size L f [.int (nI v0)] 0 0 (pv_R L f (nI (pcN v0))) := by
  refine pv_startI (cc := cL_size) (maxL := 3) (ret := (some .int)) (by decide) rfl (Nat.le_of_ble_eq_true rfl) (fun A0 P0 E0 S0 M0 a0 B0 T0 C0 hC => ?_)
  refine pg_sub (vs' := [(0, .int (nI v0))]) [0] rfl ?_
  refine pg_iconst (pc := 0) (v := 0) hC dL_size_0 (by decide) ?_
  refine pg_istore_n (pc := 1) (vs' := [(1, .int 0), (0, .int (nI v0))]) hC dL_size_1 rfl (by decide) rfl ?_
  refine pg_iload_n (pc := 2) hC dL_size_2 1 rfl rfl ?_
  refine pg_istore_n (pc := 3) (vs' := [(2, .int (nI v0)), (1, .int 0), (0, .int (nI v0))]) hC dL_size_3 rfl (by decide) rfl ?_
  refine pg_sub (vs' := [(0, .int (nI v0)), (1, .int 0), (2, .int (nI v0))]) [2, 1, 0] rfl ?_
  refine pg_loop (pc := 4) (σ := Nat × Nat) (I := fun q => match q with | (m, v) => v < 1024 ∧ m + pcN v = pcN v0) (μ := fun q => match q with | (m, v) => v) (VS := fun q => match q with | (m, v) => [(0, .int (nI v0)), (1, .int (nI m)), (2, .int (nI v))]) (FF := fun q => match q with | (m, v) => f) ?_ (0, v0) ⟨hv0, Nat.zero_add _⟩
  intro q hI ih1
  obtain ⟨m, v⟩ := q
  dsimp only at hI ih1 ⊢
  have hI2 := hI
  obtain ⟨_, _⟩ := hI
  obtain ⟨hv, hpc⟩ := hI2
  refine pg_iload_n (pc := 4) hC dL_size_4 2 rfl rfl ?_
  refine pg_if_eq (pc := 5) hC 20 dL_size_5 (by decide)  (fun c2 => ?_) (fun c2 => ?_)
  · skip
    have v0 : v = 0 := (nI_z (by omega)).mp c2
    subst v0
    have e : m = pcN v0 := by rw [← hpc]; show m = m + pcN 0; rw [show pcN 0 = 0 from by decide]; rfl
    subst e
    refine pg_iload_n (pc := 20) hC dL_size_20 1 rfl rfl ?_
    exact pg_iret (pc := 21) hC dL_size_21 rfl ⟨rfl, rfl⟩
  · skip
    have v1 : v ≠ 0 := fun q => c2 ((nI_z (by omega)).mpr q)
    obtain ⟨pa, pb, pd⟩ := pc_step v hv v1
    refine pg_iinc (pc := 8) (v := nI (m + 1)) (vs' := [(1, .int (nI (m + 1))), (0, .int (nI v0)), (2, .int (nI v))]) hC dL_size_8 1 rfl (nI_add (m) 1) (by decide) rfl ?_
    refine pg_iload_n (pc := 11) hC dL_size_11 2 rfl rfl ?_
    refine pg_iload_n (pc := 12) hC dL_size_12 2 rfl rfl ?_
    refine pg_iconst (pc := 13) (v := 1) hC dL_size_13 (by decide) ?_
    refine pg_isub (pc := 14) (v := nI v - 1) hC dL_size_14 rfl ?_
    refine pg_iand (pc := 15) (v := nI (v &&& (v - 1))) hC dL_size_15 pa ?_
    refine pg_istore_n (pc := 16) (vs' := [(2, .int (nI (v &&& (v - 1)))), (1, .int (nI (m + 1))), (0, .int (nI v0))]) hC dL_size_16 rfl (by decide) rfl ?_
    refine pg_goto (pc := 17) hC 4 dL_size_17 (by decide) ?_
    refine pg_sub (vs' := [(0, .int (nI v0)), (1, .int (nI (m + 1))), (2, .int (nI (v &&& (v - 1))))]) [2, 1, 0] rfl ?_
    exact ih1 (m + 1, v &&& (v - 1)) ⟨(show v &&& (v - 1) < 1024 by omega), (show m + 1 + pcN (v &&& (v - 1)) = pcN v0 by omega)⟩ pb
