abbrev rmX4_set : Room := { frames := 4, cells := 0, slots := 0, locals := 103 }
theorem miX4_set_X3 : ∀ w ∈ wsX30, w ∈ wsX4_set := fun _ h => List.mem_cons_of_mem _ (List.mem_append_left _ (List.mem_append_right _ h))
theorem miX4_set_X4 : ∀ w ∈ wsX40, w ∈ wsX4_set := fun _ h => List.mem_cons_of_mem _ (List.mem_append_left _ (List.mem_append_left _ (List.mem_append_right _ h)))
set_option maxHeartbeats 2000000 in
set_option maxRecDepth 20000 in
theorem cX4_set_c (l : Launch) {κ : pv_Kt} {L : List Nat} {f : Nat → va_E} {x : Nat → Nat → Nat} {Z : Nat → Nat → Nat → Int32} (hok : pv_ok κ x L f Z) (nx kp : Nat) (hnx : Z 12 1 0 = nI nx) (hnx6 : nx < 6) (hkp : Z 12 2 0 = nI kp) (hkp6 : kp ≤ 6) (st v : Int32) : pv_Mi l κ yX4_set wsX4_set rmX4_set L f [.ref (x 12 2), .int st, .int v] 0 0 (pv_Wi κ x L (tSetZ Z nx kp st v) (tSet (Z 0) st v)) := by
  refine pv_startI (cc := cX4_set) (maxL := 4) (ret := (some .int)) (by decide) rfl (Nat.le_of_ble_eq_true rfl) (fun A0 P0 E0 S0 M0 a0 B0 T0 C0 hC => ?_)
  refine pg_sub (vs' := [(0, .ref (x 12 2)), (1, .int st), (2, .int v)]) [0, 1, 2] rfl ?_
  refine pg_iload_n (pc := 0) hC dX4_set_0 1 rfl rfl ?_
  refine pg_iconst (pc := 1) (v := 0) hC dX4_set_1 (by decide) ?_
  refine pg_gets (pc := 2) hC dX4_set_2 hC.2.2.2.2.2.2.2.2.2.1.1.1 (List.mem_of_getElem? (i := 1) rfl) ?_
  refine pg_tlen (pc := 5) (v := 5) hC dX4_set_5 hC.2.2.2.2.2.2.2.2.2.1.1.1 (by decide) ?_
  refine pg_iconst (pc := 6) (v := 1) hC dX4_set_6 (by decide) ?_
  refine pg_isub (pc := 7) (v := 4) hC dX4_set_7 (by decide) ?_
  refine pg_callSRi (pc := 8) (As := [.int st, .int 0, .int 4]) (rest := []) hC dX4_set_8 (cX4_isWithin_c l st 0 4) (va_cwS 3 hC.2.2.2.2.1 gX4_set_X4_isWithin rfl rfl rfl (by decide +kernel) ⟨Nat.le_of_ble_eq_true rfl, Nat.le_of_ble_eq_true rfl⟩) rfl rfl (Nat.le_of_ble_eq_true rfl) (Nat.zero_le _) (Nat.zero_le _) ?_
  refine pg_if_ne (pc := 11) hC 17 dX4_set_11 (by decide)  (fun c1 => ?_) (fun c1 => ?_)
  · skip
    obtain ⟨k, hk4, rfl⟩ := bW_nat (m := 4) rfl (by decide) c1
    have clk : cl (nI k) = k := cl_nI (by omega)
    refine pg_iload_n (pc := 17) hC dX4_set_17 2 rfl rfl ?_
    refine pg_gets (pc := 18) hC dX4_set_18 hC.2.2.2.2.2.2.2.2.2.1.1.2.1 (List.mem_of_getElem? (i := 2) rfl) ?_
    refine pg_iload_n (pc := 21) hC dX4_set_21 1 rfl rfl ?_
    refine pg_tald (pc := 22) (v := pv_t1 k) hC dX4_set_22 (k) hC.2.2.2.2.2.2.2.2.2.1.1.2.1 rfl (by omega) rfl ?_
    refine pg_gets (pc := 23) hC dX4_set_23 hC.2.2.2.2.2.2.2.2.2.1.1.2.2 (List.mem_of_getElem? (i := 3) rfl) ?_
    refine pg_iload_n (pc := 26) hC dX4_set_26 1 rfl rfl ?_
    refine pg_tald (pc := 27) (v := pv_t2 k) hC dX4_set_27 (k) hC.2.2.2.2.2.2.2.2.2.1.1.2.2 rfl (by omega) rfl ?_
    refine pg_callSRi (pc := 28) (As := [.int v, .int (pv_t1 k), .int (pv_t2 k)]) (rest := []) hC dX4_set_28 (cX4_isWithin_c l v (pv_t1 k) (pv_t2 k)) (va_cwS 3 hC.2.2.2.2.1 gX4_set_X4_isWithin rfl rfl rfl (by decide +kernel) ⟨Nat.le_of_ble_eq_true rfl, Nat.le_of_ble_eq_true rfl⟩) rfl rfl (Nat.le_of_ble_eq_true rfl) (Nat.zero_le _) (Nat.zero_le _) ?_
    refine pg_if_ne (pc := 31) hC 37 dX4_set_31 (by decide)  (fun c2 => ?_) (fun c2 => ?_)
    · skip
      refine pg_aload_n (pc := 37) hC dX4_set_37 0 rfl rfl ?_
      refine pgX_get1 (pc := 38) hC dX4_set_38 (List.mem_of_getElem? (i := 4) rfl) miX4_set_X4 hok ?_
      refine pg_aload_n (pc := 41) hC dX4_set_41 0 rfl rfl ?_
      refine pgX_get0 (pc := 42) hC dX4_set_42 (List.mem_of_getElem? (i := 5) rfl) miX4_set_X4 hok ?_
      refine pg_callVWv (pc := 45) (As := [.ref (x 0 1)]) (rest := []) hC dX4_set_45 (cX0_keep_c l hok nx kp hnx hnx6 hkp hkp6) (cwV 1 hC.2.2.2.2.1 gX4_set_X0_keep rfl rfl rfl (by decide +kernel) ⟨Nat.le_of_ble_eq_true rfl, Nat.le_of_ble_eq_true rfl⟩) (ok_mem hok (by decide)) (ok_Ho hok) rfl rfl rfl rfl (Nat.le_of_ble_eq_true rfl) (Nat.zero_le _) (Nat.zero_le _) (fun f1 hokw1 => ?_)
      have hokk3 := sKeep_ok hokw1
      refine pg_aload_n (pc := 48) hC dX4_set_48 0 rfl rfl ?_
      refine pgX_get0 (pc := 49) hC dX4_set_49 (List.mem_of_getElem? (i := 5) rfl) miX4_set_X4 hokk3 ?_
      refine pgS_geta (pc := 52) hC dX4_set_52 0 (List.mem_of_getElem? (i := 6) rfl) miX4_set_X3 hokk3 (by decide) (by decide) (by decide) rfl ?_
      refine pg_iload_n (pc := 55) hC dX4_set_55 1 rfl rfl ?_
      refine pgS_iald (pc := 56) (v := Z 0 0 k) hC dX4_set_56 0 (k) hokk3 (by decide) (by decide) (by decide) rfl (show k < 5 by omega) rfl ?_
      refine pg_istore_n (pc := 57) (vs' := [(3, .int (Z 0 0 k)), (0, .ref (x 12 2)), (1, .int (nI k)), (2, .int v)]) hC dX4_set_57 rfl (by decide) rfl ?_
      refine pg_aload_n (pc := 58) hC dX4_set_58 1 rfl rfl ?_
      refine pgX_get0 (pc := 59) hC dX4_set_59 (List.mem_of_getElem? (i := 5) rfl) miX4_set_X4 hokk3 ?_
      refine pgS_geta (pc := 62) hC dX4_set_62 0 (List.mem_of_getElem? (i := 6) rfl) miX4_set_X3 hokk3 (by decide) (by decide) (by decide) rfl ?_
      refine pg_iload_n (pc := 65) hC dX4_set_65 2 rfl rfl ?_
      refine pg_iload_n (pc := 66) hC dX4_set_66 3 rfl rfl ?_
      refine pgS_iast (pc := 67) hC dX4_set_67 0 (k) hokk3 (by decide) (by decide) (by decide) rfl (show k < 5 by omega) (fun f2 hokw2 => ?_)
      refine pg_iload_n (pc := 68) hC dX4_set_68 0 rfl rfl ?_
      exact pg_iret (pc := 69) hC dX4_set_69 rfl ⟨(by first | rfl | (simp [tSet, c1, c2, clk]; done) | (simp_all [tSet]; done)), rfl, (by rw [show tSetZ Z nx kp (nI k) v = (va_up (sKeep Z nx kp) 0 (zu (Z 0) 0 k v)) from by (first | rfl | (simp [tSetZ, c1, c2, clk]; done))]; exact hokw2)⟩
    · skip
      refine pg_bipush (pc := 34) (v := (-2)) hC dX4_set_34 (by decide) ?_
      exact pg_iret (pc := 36) hC dX4_set_36 rfl ⟨(by first | rfl | (simp [tSet, c1, c2, clk]; done) | (simp_all [tSet]; done)), rfl, (by rw [show tSetZ Z nx kp (nI k) v = Z from by (first | rfl | (simp [tSetZ, c1, c2, clk]; done))]; exact hok)⟩
  · skip
    refine pg_bipush (pc := 14) (v := (-2)) hC dX4_set_14 (by decide) ?_
    exact pg_iret (pc := 16) hC dX4_set_16 rfl ⟨(by first | rfl | (simp [tSet, c1]; done) | (simp_all [tSet]; done)), rfl, (by rw [show tSetZ Z nx kp st v = Z from by (first | rfl | (simp [tSetZ, c1]; done))]; exact hok)⟩
abbrev rmX4_add : Room := { frames := 4, cells := 0, slots := 0, locals := 103 }
theorem miX4_add_X3 : ∀ w ∈ wsX30, w ∈ wsX4_add := fun _ h => List.mem_cons_of_mem _ (List.mem_append_left _ (List.mem_append_right _ h))
theorem miX4_add_X4 : ∀ w ∈ wsX40, w ∈ wsX4_add := fun _ h => List.mem_cons_of_mem _ (List.mem_append_left _ (List.mem_append_left _ (List.mem_append_right _ h)))
set_option maxHeartbeats 2000000 in
set_option maxRecDepth 20000 in
theorem cX4_add_c (l : Launch) {κ : pv_Kt} {L : List Nat} {f : Nat → va_E} {x : Nat → Nat → Nat} {Z : Nat → Nat → Nat → Int32} (hok : pv_ok κ x L f Z) (n : Nat) (hn : Z 0 1 0 = nI n) (hn12 : n ≤ 12) (nx kp : Nat) (hnx : Z 12 1 0 = nI nx) (hnx6 : nx < 6) (hkp : Z 12 2 0 = nI kp) (hkp6 : kp ≤ 6) (kd wh : Int32) : pv_Mi l κ yX4_add wsX4_add rmX4_add L f [.ref (x 12 2), .int kd, .int wh] 0 0 (pv_Wi κ x L (tAddZ Z nx kp n kd wh) (tAdd n kd wh)) := by
  refine pv_startI (cc := cX4_add) (maxL := 3) (ret := (some .int)) (by decide) rfl (Nat.le_of_ble_eq_true rfl) (fun A0 P0 E0 S0 M0 a0 B0 T0 C0 hC => ?_)
  refine pg_sub (vs' := [(0, .ref (x 12 2)), (1, .int kd), (2, .int wh)]) [0, 1, 2] rfl ?_
  refine pg_iload_n (pc := 0) hC dX4_add_0 1 rfl rfl ?_
  refine pg_iconst (pc := 1) (v := 0) hC dX4_add_1 (by decide) ?_
  refine pg_iconst (pc := 2) (v := 4) hC dX4_add_2 (by decide) ?_
  refine pg_callSRi (pc := 3) (As := [.int kd, .int 0, .int 4]) (rest := []) hC dX4_add_3 (cX4_isWithin_c l kd 0 4) (va_cwS 3 hC.2.2.2.2.1 gX4_add_X4_isWithin rfl rfl rfl (by decide +kernel) ⟨Nat.le_of_ble_eq_true rfl, Nat.le_of_ble_eq_true rfl⟩) rfl rfl (Nat.le_of_ble_eq_true rfl) (Nat.zero_le _) (Nat.zero_le _) ?_
  refine pg_if_eq (pc := 6) hC 19 dX4_add_6 (by decide)  (fun c1 => ?_) (fun c1 => ?_)
  · skip
    refine pg_bipush (pc := 19) (v := (-2)) hC dX4_add_19 (by decide) ?_
    exact pg_iret (pc := 21) hC dX4_add_21 rfl ⟨(by first | rfl | (simp [tAdd, c1]; done) | (simp_all [tAdd]; done)), rfl, (by rw [show tAddZ Z nx kp n kd wh = Z from by (first | rfl | (simp [tAddZ, c1]; done))]; exact hok)⟩
  · skip
    refine pg_iload_n (pc := 9) hC dX4_add_9 2 rfl rfl ?_
    refine pg_iconst (pc := 10) (v := 1) hC dX4_add_10 (by decide) ?_
    refine pg_bipush (pc := 11) (v := 99) hC dX4_add_11 (by decide) ?_
    refine pg_callSRi (pc := 13) (As := [.int wh, .int 1, .int 99]) (rest := []) hC dX4_add_13 (cX4_isWithin_c l wh 1 99) (va_cwS 3 hC.2.2.2.2.1 gX4_add_X4_isWithin rfl rfl rfl (by decide +kernel) ⟨Nat.le_of_ble_eq_true rfl, Nat.le_of_ble_eq_true rfl⟩) rfl rfl (Nat.le_of_ble_eq_true rfl) (Nat.zero_le _) (Nat.zero_le _) ?_
    refine pg_if_ne (pc := 16) hC 22 dX4_add_16 (by decide)  (fun c2 => ?_) (fun c2 => ?_)
    · skip
      refine pg_aload_n (pc := 22) hC dX4_add_22 0 rfl rfl ?_
      refine pgX_get0 (pc := 23) hC dX4_add_23 (List.mem_of_getElem? (i := 1) rfl) miX4_add_X4 hok ?_
      refine pgS_geti (pc := 26) (v := nI n) hC dX4_add_26 1 (List.mem_of_getElem? (i := 2) rfl) miX4_add_X3 (ogI hok 0) (by decide) (by decide) hn ?_
      refine pg_bipush (pc := 29) (v := 12) hC dX4_add_29 (by decide) ?_
      refine pg_icmp_ltN (pc := 31) hC 37 dX4_add_31 (by decide) (n) (12) rfl rfl (by omega) (by omega) (fun c3 => ?_) (fun c3 => ?_)
      · skip
        refine pg_aload_n (pc := 37) hC dX4_add_37 0 rfl rfl ?_
        refine pgX_get1 (pc := 38) hC dX4_add_38 (List.mem_of_getElem? (i := 3) rfl) miX4_add_X4 hok ?_
        refine pg_aload_n (pc := 41) hC dX4_add_41 0 rfl rfl ?_
        refine pgX_get0 (pc := 42) hC dX4_add_42 (List.mem_of_getElem? (i := 1) rfl) miX4_add_X4 hok ?_
        refine pg_callVWv (pc := 45) (As := [.ref (x 0 1)]) (rest := []) hC dX4_add_45 (cX0_keep_c l hok nx kp hnx hnx6 hkp hkp6) (cwV 1 hC.2.2.2.2.1 gX4_add_X0_keep rfl rfl rfl (by decide +kernel) ⟨Nat.le_of_ble_eq_true rfl, Nat.le_of_ble_eq_true rfl⟩) (ok_mem hok (by decide)) (ok_Ho hok) rfl rfl rfl rfl (Nat.le_of_ble_eq_true rfl) (Nat.zero_le _) (Nat.zero_le _) (fun f1 hokw1 => ?_)
        have hokk4 := sKeep_ok hokw1
        refine pg_aload_n (pc := 48) hC dX4_add_48 0 rfl rfl ?_
        refine pgX_get0 (pc := 49) hC dX4_add_49 (List.mem_of_getElem? (i := 1) rfl) miX4_add_X4 hokk4 ?_
        refine pg_iload_n (pc := 52) hC dX4_add_52 1 rfl rfl ?_
        refine pg_iload_n (pc := 53) hC dX4_add_53 2 rfl rfl ?_
        refine pg_callVWi (pc := 54) (As := [.int kd, .int wh]) (rest := []) hC dX4_add_54 (cX3_addExcuse_c l (by decide) hokk4 n hn (by omega) kd wh) (cwV 2 hC.2.2.2.2.1 gX4_add_X3_addExcuse rfl rfl rfl (by decide +kernel) ⟨Nat.le_of_ble_eq_true rfl, Nat.le_of_ble_eq_true rfl⟩) (ok_Sm hokk4 (by decide) 1 (by decide)) (og_So hokk4 (by decide)) rfl rfl rfl rfl (Nat.le_of_ble_eq_true rfl) (Nat.zero_le _) (Nat.zero_le _) (fun f2 hokw2 => ?_)
        exact pg_iret (pc := 57) hC dX4_add_57 rfl ⟨(by first | rfl | (simp [tAdd, c1, c2, c3]; done) | (simp_all [tAdd]; done)), rfl, (by rw [show tAddZ Z nx kp n kd wh = (va_up (sKeep Z nx kp) 0 (sAdd (Z 0) n kd wh)) from by (first | rfl | (simp [tAddZ, c1, c2, c3]; done))]; exact hokw2)⟩
      · skip
        refine pg_bipush (pc := 34) (v := (-4)) hC dX4_add_34 (by decide) ?_
        exact pg_iret (pc := 36) hC dX4_add_36 rfl ⟨(by first | rfl | (simp [tAdd, c1, c2, c3, Nat.not_lt.mpr c3]; done) | (simp_all [tAdd]; done)), rfl, (by rw [show tAddZ Z nx kp n kd wh = Z from by (first | rfl | (simp [tAddZ, c1, c2, c3, Nat.not_lt.mpr c3]; done))]; exact hok)⟩
    · skip
      refine pg_bipush (pc := 19) (v := (-2)) hC dX4_add_19 (by decide) ?_
      exact pg_iret (pc := 21) hC dX4_add_21 rfl ⟨(by first | rfl | (simp [tAdd, c1, c2]; done) | (simp_all [tAdd]; done)), rfl, (by rw [show tAddZ Z nx kp n kd wh = Z from by (first | rfl | (simp [tAddZ, c1, c2]; done))]; exact hok)⟩
abbrev rmX4_worth : Room := { frames := 4, cells := 0, slots := 0, locals := 103 }
theorem miX4_worth_X3 : ∀ w ∈ wsX30, w ∈ wsX4_worth := fun _ h => List.mem_cons_of_mem _ (List.mem_append_left _ (List.mem_append_right _ h))
theorem miX4_worth_X4 : ∀ w ∈ wsX40, w ∈ wsX4_worth := fun _ h => List.mem_cons_of_mem _ (List.mem_append_left _ (List.mem_append_left _ (List.mem_append_right _ h)))
set_option maxHeartbeats 2000000 in
set_option maxRecDepth 20000 in
theorem cX4_worth_c (l : Launch) {κ : pv_Kt} {L : List Nat} {f : Nat → va_E} {x : Nat → Nat → Nat} {Z : Nat → Nat → Nat → Int32} (hok : pv_ok κ x L f Z) (n : Nat) (hn : Z 0 1 0 = nI n) (hn12 : n ≤ 12) (nx kp : Nat) (hnx : Z 12 1 0 = nI nx) (hnx6 : nx < 6) (hkp : Z 12 2 0 = nI kp) (hkp6 : kp ≤ 6) (ee wh : Int32) : pv_Mi l κ yX4_worth wsX4_worth rmX4_worth L f [.ref (x 12 2), .int ee, .int wh] 0 0 (pv_Wi κ x L (tWorthZ Z nx kp ee wh) (tWorth (Z 0) ee wh)) := by
  refine pv_startI (cc := cX4_worth) (maxL := 4) (ret := (some .int)) (by decide) rfl (Nat.le_of_ble_eq_true rfl) (fun A0 P0 E0 S0 M0 a0 B0 T0 C0 hC => ?_)
  refine pg_sub (vs' := [(0, .ref (x 12 2)), (1, .int ee), (2, .int wh)]) [0, 1, 2] rfl ?_
  refine pg_aload_n (pc := 0) hC dX4_worth_0 0 rfl rfl ?_
  refine pgX_get0 (pc := 1) hC dX4_worth_1 (List.mem_of_getElem? (i := 1) rfl) miX4_worth_X4 hok ?_
  refine pg_iload_n (pc := 4) hC dX4_worth_4 1 rfl rfl ?_
  refine pg_callVRi (pc := 5) (As := [.int ee]) (rest := []) hC dX4_worth_5 (cX3_hasExcuse_c l (by decide) (ogI hok 0) ee) (cwV 1 hC.2.2.2.2.1 gX4_worth_X3_hasExcuse rfl rfl rfl (by decide +kernel) ⟨Nat.le_of_ble_eq_true rfl, Nat.le_of_ble_eq_true rfl⟩) (ok_Sm (ogI hok 0) (by decide) 1 (by decide)) (og_So (ogI hok 0) (by decide)) rfl rfl rfl rfl (Nat.le_of_ble_eq_true rfl) (Nat.zero_le _) (Nat.zero_le _) ?_
  refine pg_if_ne (pc := 8) hC 13 dX4_worth_8 (by decide)  (fun c1 => ?_) (fun c1 => ?_)
  · skip
    obtain ⟨e, he, rfl⟩ := bH_nat hn (by omega) c1
    have cle : cl (nI e) = e := cl_nI (by omega)
    refine pg_iload_n (pc := 13) hC dX4_worth_13 2 rfl rfl ?_
    refine pg_iconst (pc := 14) (v := 1) hC dX4_worth_14 (by decide) ?_
    refine pg_bipush (pc := 15) (v := 99) hC dX4_worth_15 (by decide) ?_
    refine pg_callSRi (pc := 17) (As := [.int wh, .int 1, .int 99]) (rest := []) hC dX4_worth_17 (cX4_isWithin_c l wh 1 99) (va_cwS 3 hC.2.2.2.2.1 gX4_worth_X4_isWithin rfl rfl rfl (by decide +kernel) ⟨Nat.le_of_ble_eq_true rfl, Nat.le_of_ble_eq_true rfl⟩) rfl rfl (Nat.le_of_ble_eq_true rfl) (Nat.zero_le _) (Nat.zero_le _) ?_
    refine pg_if_ne (pc := 20) hC 26 dX4_worth_20 (by decide)  (fun c2 => ?_) (fun c2 => ?_)
    · skip
      refine pg_aload_n (pc := 26) hC dX4_worth_26 0 rfl rfl ?_
      refine pgX_get1 (pc := 27) hC dX4_worth_27 (List.mem_of_getElem? (i := 2) rfl) miX4_worth_X4 hok ?_
      refine pg_aload_n (pc := 30) hC dX4_worth_30 0 rfl rfl ?_
      refine pgX_get0 (pc := 31) hC dX4_worth_31 (List.mem_of_getElem? (i := 1) rfl) miX4_worth_X4 hok ?_
      refine pg_callVWv (pc := 34) (As := [.ref (x 0 1)]) (rest := []) hC dX4_worth_34 (cX0_keep_c l hok nx kp hnx hnx6 hkp hkp6) (cwV 1 hC.2.2.2.2.1 gX4_worth_X0_keep rfl rfl rfl (by decide +kernel) ⟨Nat.le_of_ble_eq_true rfl, Nat.le_of_ble_eq_true rfl⟩) (ok_mem hok (by decide)) (ok_Ho hok) rfl rfl rfl rfl (Nat.le_of_ble_eq_true rfl) (Nat.zero_le _) (Nat.zero_le _) (fun f1 hokw1 => ?_)
      have hokk3 := sKeep_ok hokw1
      refine pg_aload_n (pc := 37) hC dX4_worth_37 0 rfl rfl ?_
      refine pgX_get0 (pc := 38) hC dX4_worth_38 (List.mem_of_getElem? (i := 1) rfl) miX4_worth_X4 hokk3 ?_
      refine pgS_geta (pc := 41) hC dX4_worth_41 3 (List.mem_of_getElem? (i := 3) rfl) miX4_worth_X3 hokk3 (by decide) (by decide) (by decide) rfl ?_
      refine pg_iload_n (pc := 44) hC dX4_worth_44 1 rfl rfl ?_
      refine pgS_iald (pc := 45) (v := Z 0 3 e) hC dX4_worth_45 3 (e) hokk3 (by decide) (by decide) (by decide) rfl (show e < 12 by omega) rfl ?_
      refine pg_istore_n (pc := 46) (vs' := [(3, .int (Z 0 3 e)), (0, .ref (x 12 2)), (1, .int (nI e)), (2, .int wh)]) hC dX4_worth_46 rfl (by decide) rfl ?_
      refine pg_aload_n (pc := 47) hC dX4_worth_47 1 rfl rfl ?_
      refine pgX_get0 (pc := 48) hC dX4_worth_48 (List.mem_of_getElem? (i := 1) rfl) miX4_worth_X4 hokk3 ?_
      refine pgS_geta (pc := 51) hC dX4_worth_51 3 (List.mem_of_getElem? (i := 3) rfl) miX4_worth_X3 hokk3 (by decide) (by decide) (by decide) rfl ?_
      refine pg_iload_n (pc := 54) hC dX4_worth_54 2 rfl rfl ?_
      refine pg_iload_n (pc := 55) hC dX4_worth_55 3 rfl rfl ?_
      refine pgS_iast (pc := 56) hC dX4_worth_56 3 (e) hokk3 (by decide) (by decide) (by decide) rfl (show e < 12 by omega) (fun f2 hokw2 => ?_)
      refine pg_iload_n (pc := 57) hC dX4_worth_57 0 rfl rfl ?_
      exact pg_iret (pc := 58) hC dX4_worth_58 rfl ⟨(by first | rfl | (simp [tWorth, c1, c2, cle]; done) | (simp_all [tWorth]; done)), rfl, (by rw [show tWorthZ Z nx kp (nI e) wh = (va_up (sKeep Z nx kp) 0 (zu (Z 0) 3 e wh)) from by (first | rfl | (simp [tWorthZ, c1, c2, cle]; done))]; exact hokw2)⟩
    · skip
      refine pg_bipush (pc := 23) (v := (-2)) hC dX4_worth_23 (by decide) ?_
      exact pg_iret (pc := 25) hC dX4_worth_25 rfl ⟨(by first | rfl | (simp [tWorth, c1, c2, cle]; done) | (simp_all [tWorth]; done)), rfl, (by rw [show tWorthZ Z nx kp (nI e) wh = Z from by (first | rfl | (simp [tWorthZ, c1, c2, cle]; done))]; exact hok)⟩
  · skip
    refine pg_iconst (pc := 11) (v := (-1)) hC dX4_worth_11 (by decide) ?_
    exact pg_iret (pc := 12) hC dX4_worth_12 rfl ⟨(by first | rfl | (simp [tWorth, c1]; done) | (simp_all [tWorth]; done)), rfl, (by rw [show tWorthZ Z nx kp ee wh = Z from by (first | rfl | (simp [tWorthZ, c1]; done))]; exact hok)⟩
abbrev rmX4_pay : Room := { frames := 4, cells := 0, slots := 0, locals := 103 }
theorem miX4_pay_X3 : ∀ w ∈ wsX30, w ∈ wsX4_pay := fun _ h => List.mem_cons_of_mem _ (List.mem_append_left _ (List.mem_append_right _ h))
theorem miX4_pay_X4 : ∀ w ∈ wsX40, w ∈ wsX4_pay := fun _ h => List.mem_cons_of_mem _ (List.mem_append_left _ (List.mem_append_left _ (List.mem_append_right _ h)))
set_option maxHeartbeats 2000000 in
set_option maxRecDepth 20000 in
theorem cX4_pay_c (l : Launch) {κ : pv_Kt} {L : List Nat} {f : Nat → va_E} {x : Nat → Nat → Nat} {Z : Nat → Nat → Nat → Int32} (hok : pv_ok κ x L f Z) (nx kp : Nat) (hnx : Z 12 1 0 = nI nx) (hnx6 : nx < 6) (hkp : Z 12 2 0 = nI kp) (hkp6 : kp ≤ 6) (pp pc : Int32) : pv_Mi l κ yX4_pay wsX4_pay rmX4_pay L f [.ref (x 12 2), .int pp, .int pc] 0 0 (pv_Wi κ x L (tPayZ Z nx kp pp pc) (tPay (Z 0) pp pc)) := by
  refine pv_startI (cc := cX4_pay) (maxL := 3) (ret := (some .int)) (by decide) rfl (Nat.le_of_ble_eq_true rfl) (fun A0 P0 E0 S0 M0 a0 B0 T0 C0 hC => ?_)
  refine pg_sub (vs' := [(0, .ref (x 12 2)), (1, .int pp), (2, .int pc)]) [0, 1, 2] rfl ?_
  refine pg_iload_n (pc := 0) hC dX4_pay_0 1 rfl rfl ?_
  refine pg_callSRi (pc := 1) (As := [.int pp]) (rest := []) hC dX4_pay_1 (cX4_isPupil_c l pp) (va_cwS 1 hC.2.2.2.2.1 gX4_pay_X4_isPupil rfl rfl rfl (by decide +kernel) ⟨Nat.le_of_ble_eq_true rfl, Nat.le_of_ble_eq_true rfl⟩) rfl rfl (Nat.le_of_ble_eq_true rfl) (Nat.zero_le _) (Nat.zero_le _) ?_
  refine pg_if_ne (pc := 4) hC 9 dX4_pay_4 (by decide)  (fun c1 => ?_) (fun c1 => ?_)
  · skip
    obtain ⟨p, hp, rfl⟩ := bW_nat (m := 9) rfl (by decide) c1
    have clp : cl (nI p) = p := cl_nI (by omega)
    refine pg_iload_n (pc := 9) hC dX4_pay_9 2 rfl rfl ?_
    refine pg_iconst (pc := 10) (v := 1) hC dX4_pay_10 (by decide) ?_
    refine pg_sipush (pc := 11) (v := 9999) hC dX4_pay_11 (by decide) ?_
    refine pg_callSRi (pc := 14) (As := [.int pc, .int 1, .int 9999]) (rest := []) hC dX4_pay_14 (cX4_isWithin_c l pc 1 9999) (va_cwS 3 hC.2.2.2.2.1 gX4_pay_X4_isWithin rfl rfl rfl (by decide +kernel) ⟨Nat.le_of_ble_eq_true rfl, Nat.le_of_ble_eq_true rfl⟩) rfl rfl (Nat.le_of_ble_eq_true rfl) (Nat.zero_le _) (Nat.zero_le _) ?_
    refine pg_if_ne (pc := 17) hC 23 dX4_pay_17 (by decide)  (fun c2 => ?_) (fun c2 => ?_)
    · skip
      refine pg_aload_n (pc := 23) hC dX4_pay_23 0 rfl rfl ?_
      refine pgX_get0 (pc := 24) hC dX4_pay_24 (List.mem_of_getElem? (i := 1) rfl) miX4_pay_X4 hok ?_
      refine pgS_geta (pc := 27) hC dX4_pay_27 7 (List.mem_of_getElem? (i := 2) rfl) miX4_pay_X3 (ogI hok 0) (by decide) (by decide) (by decide) rfl ?_
      refine pg_iload_n (pc := 30) hC dX4_pay_30 1 rfl rfl ?_
      refine pgS_iald (pc := 31) (v := Z 0 7 p) hC dX4_pay_31 7 (p) (ogI hok 0) (by decide) (by decide) (by decide) rfl (show p < 10 by omega) rfl ?_
      refine pg_iload_n (pc := 32) hC dX4_pay_32 2 rfl rfl ?_
      refine pg_icmp_ge (pc := 33) hC 39 dX4_pay_33 (by decide)  (fun c3 => ?_) (fun c3 => ?_)
      · skip
        refine pg_aload_n (pc := 39) hC dX4_pay_39 0 rfl rfl ?_
        refine pgX_get1 (pc := 40) hC dX4_pay_40 (List.mem_of_getElem? (i := 3) rfl) miX4_pay_X4 hok ?_
        refine pg_aload_n (pc := 43) hC dX4_pay_43 0 rfl rfl ?_
        refine pgX_get0 (pc := 44) hC dX4_pay_44 (List.mem_of_getElem? (i := 1) rfl) miX4_pay_X4 hok ?_
        refine pg_callVWv (pc := 47) (As := [.ref (x 0 1)]) (rest := []) hC dX4_pay_47 (cX0_keep_c l hok nx kp hnx hnx6 hkp hkp6) (cwV 1 hC.2.2.2.2.1 gX4_pay_X0_keep rfl rfl rfl (by decide +kernel) ⟨Nat.le_of_ble_eq_true rfl, Nat.le_of_ble_eq_true rfl⟩) (ok_mem hok (by decide)) (ok_Ho hok) rfl rfl rfl rfl (Nat.le_of_ble_eq_true rfl) (Nat.zero_le _) (Nat.zero_le _) (fun f1 hokw1 => ?_)
        have hokk4 := sKeep_ok hokw1
        refine pg_aload_n (pc := 50) hC dX4_pay_50 0 rfl rfl ?_
        refine pgX_get0 (pc := 51) hC dX4_pay_51 (List.mem_of_getElem? (i := 1) rfl) miX4_pay_X4 hokk4 ?_
        refine pgS_geta (pc := 54) hC dX4_pay_54 7 (List.mem_of_getElem? (i := 2) rfl) miX4_pay_X3 hokk4 (by decide) (by decide) (by decide) rfl ?_
        refine pg_iload_n (pc := 57) hC dX4_pay_57 1 rfl rfl ?_
        refine pg_dup2 (pc := 58) hC dX4_pay_58 rfl rfl ?_
        refine pgS_iald (pc := 59) (v := Z 0 7 p) hC dX4_pay_59 7 (p) hokk4 (by decide) (by decide) (by decide) rfl (show p < 10 by omega) rfl ?_
        refine pg_iload_n (pc := 60) hC dX4_pay_60 2 rfl rfl ?_
        refine pg_isub (pc := 61) (v := (Z 0 7 p) - pc) hC dX4_pay_61 rfl ?_
        refine pgS_iast (pc := 62) hC dX4_pay_62 7 (p) hokk4 (by decide) (by decide) (by decide) rfl (show p < 10 by omega) (fun f2 hokw2 => ?_)
        refine pg_aload_n (pc := 63) hC dX4_pay_63 0 rfl rfl ?_
        refine pgX_get0 (pc := 64) hC dX4_pay_64 (List.mem_of_getElem? (i := 1) rfl) miX4_pay_X4 hokw2 ?_
        refine pgS_geta (pc := 67) hC dX4_pay_67 8 (List.mem_of_getElem? (i := 4) rfl) miX4_pay_X3 hokw2 (by decide) (by decide) (by decide) rfl ?_
        refine pg_iload_n (pc := 70) hC dX4_pay_70 1 rfl rfl ?_
        refine pg_dup2 (pc := 71) hC dX4_pay_71 rfl rfl ?_
        refine pgS_iald (pc := 72) (v := Z 0 8 p) hC dX4_pay_72 8 (p) hokw2 (by decide) (by decide) (by decide) rfl (show p < 10 by omega) rfl ?_
        refine pg_iload_n (pc := 73) hC dX4_pay_73 2 rfl rfl ?_
        refine pg_iadd (pc := 74) (v := (Z 0 8 p) + pc) hC dX4_pay_74 rfl ?_
        refine pgS_iast (pc := 75) hC dX4_pay_75 8 (p) hokw2 (by decide) (by decide) (by decide) rfl (show p < 10 by omega) (fun f3 hokw3 => ?_)
        refine pg_aload_n (pc := 76) hC dX4_pay_76 0 rfl rfl ?_
        refine pgX_get0 (pc := 77) hC dX4_pay_77 (List.mem_of_getElem? (i := 1) rfl) miX4_pay_X4 hokw3 ?_
        refine pgS_geta (pc := 80) hC dX4_pay_80 7 (List.mem_of_getElem? (i := 2) rfl) miX4_pay_X3 hokw3 (by decide) (by decide) (by decide) rfl ?_
        refine pg_iload_n (pc := 83) hC dX4_pay_83 1 rfl rfl ?_
        refine pgS_iald (pc := 84) (v := (Z 0 7 p) - pc) hC dX4_pay_84 7 (p) hokw3 (by decide) (by decide) (by decide) rfl (show p < 10 by omega) (by simp [zu, va_up]) ?_
        exact pg_iret (pc := 85) hC dX4_pay_85 rfl ⟨(by first | rfl | (simp [tPay, c1, c2, c3, clp]; done) | (simp_all [tPay]; done)), rfl, (by rw [show tPayZ Z nx kp (nI p) pc = (va_up (sKeep Z nx kp) 0 (zu (zu (Z 0) 7 p ((Z 0 7 p) - pc)) 8 p ((Z 0 8 p) + pc))) from by (first | rfl | (simp [tPayZ, sPay, c1, c2, c3, clp]; done))]; exact hokw3)⟩
      · skip
        refine pg_bipush (pc := 36) (v := (-5)) hC dX4_pay_36 (by decide) ?_
        exact pg_iret (pc := 38) hC dX4_pay_38 rfl ⟨(by first | rfl | (simp [tPay, c1, c2, c3, clp]; done) | (simp_all [tPay]; done)), rfl, (by rw [show tPayZ Z nx kp (nI p) pc = Z from by (first | rfl | (simp [tPayZ, sPay, c1, c2, c3, clp]; done))]; exact hok)⟩
    · skip
      refine pg_bipush (pc := 20) (v := (-2)) hC dX4_pay_20 (by decide) ?_
      exact pg_iret (pc := 22) hC dX4_pay_22 rfl ⟨(by first | rfl | (simp [tPay, c1, c2, clp]; done) | (simp_all [tPay]; done)), rfl, (by rw [show tPayZ Z nx kp (nI p) pc = Z from by (first | rfl | (simp [tPayZ, sPay, c1, c2, clp]; done))]; exact hok)⟩
  · skip
    refine pg_iconst (pc := 7) (v := (-1)) hC dX4_pay_7 (by decide) ?_
    exact pg_iret (pc := 8) hC dX4_pay_8 rfl ⟨(by first | rfl | (simp [tPay, c1]; done) | (simp_all [tPay]; done)), rfl, (by rw [show tPayZ Z nx kp pp pc = Z from by (first | rfl | (simp [tPayZ, sPay, c1]; done))]; exact hok)⟩
abbrev rmX4_endTerm : Room := { frames := 4, cells := 0, slots := 0, locals := 103 }
theorem miX4_endTerm_X3 : ∀ w ∈ wsX30, w ∈ wsX4_endTerm := fun _ h => List.mem_cons_of_mem _ (List.mem_append_left _ (List.mem_append_right _ h))
theorem miX4_endTerm_X4 : ∀ w ∈ wsX40, w ∈ wsX4_endTerm := fun _ h => List.mem_cons_of_mem _ (List.mem_append_left _ (List.mem_append_left _ (List.mem_append_right _ h)))
set_option maxHeartbeats 2000000 in
set_option maxRecDepth 20000 in
theorem cX4_endTerm_c (l : Launch) {κ : pv_Kt} {L : List Nat} {f : Nat → va_E} {x : Nat → Nat → Nat} {Z : Nat → Nat → Nat → Int32} (hok : pv_ok κ x L f Z) (nx kp : Nat) (hnx : Z 12 1 0 = nI nx) (hnx6 : nx < 6) (hkp : Z 12 2 0 = nI kp) (hkp6 : kp ≤ 6)  : pv_Mi l κ yX4_endTerm wsX4_endTerm rmX4_endTerm L f [.ref (x 12 2)] 0 0 (pv_Wi κ x L (tEndZ Z nx kp) (tEnd (Z 0))) := by
  refine pv_startI (cc := cX4_endTerm) (maxL := 2) (ret := (some .int)) (by decide) rfl (Nat.le_of_ble_eq_true rfl) (fun A0 P0 E0 S0 M0 a0 B0 T0 C0 hC => ?_)
  refine pg_sub (vs' := [(0, .ref (x 12 2))]) [0] rfl ?_
  refine pg_aload_n (pc := 0) hC dX4_endTerm_0 0 rfl rfl ?_
  refine pgX_get1 (pc := 1) hC dX4_endTerm_1 (List.mem_of_getElem? (i := 1) rfl) miX4_endTerm_X4 hok ?_
  refine pg_aload_n (pc := 4) hC dX4_endTerm_4 0 rfl rfl ?_
  refine pgX_get0 (pc := 5) hC dX4_endTerm_5 (List.mem_of_getElem? (i := 2) rfl) miX4_endTerm_X4 hok ?_
  refine pg_callVWv (pc := 8) (As := [.ref (x 0 1)]) (rest := []) hC dX4_endTerm_8 (cX0_keep_c l hok nx kp hnx hnx6 hkp hkp6) (cwV 1 hC.2.2.2.2.1 gX4_endTerm_X0_keep rfl rfl rfl (by decide +kernel) ⟨Nat.le_of_ble_eq_true rfl, Nat.le_of_ble_eq_true rfl⟩) (ok_mem hok (by decide)) (ok_Ho hok) rfl rfl rfl rfl (Nat.le_of_ble_eq_true rfl) (Nat.zero_le _) (Nat.zero_le _) (fun f1 hokw1 => ?_)
  have hokk1 := sKeep_ok hokw1
  refine pg_aload_n (pc := 11) hC dX4_endTerm_11 0 rfl rfl ?_
  refine pgX_get0 (pc := 12) hC dX4_endTerm_12 (List.mem_of_getElem? (i := 2) rfl) miX4_endTerm_X4 hokk1 ?_
  refine pgS_geta (pc := 15) hC dX4_endTerm_15 5 (List.mem_of_getElem? (i := 3) rfl) miX4_endTerm_X3 hokk1 (by decide) (by decide) (by decide) rfl ?_
  refine pg_callSRi (pc := 18) (As := [.ref (x 0 5)]) (rest := []) hC dX4_endTerm_18 (cX4_sum_c l (n := 120) (by decide) (ok_Sm hokk1 (by decide) 5 (by decide)) (og_Sa hokk1 (by decide) 5 (by decide) (by decide))) (va_cwS 1 hC.2.2.2.2.1 gX4_endTerm_X4_sum rfl rfl rfl (by decide +kernel) ⟨Nat.le_of_ble_eq_true rfl, Nat.le_of_ble_eq_true rfl⟩) rfl rfl (Nat.le_of_ble_eq_true rfl) (Nat.zero_le _) (Nat.zero_le _) ?_
  refine pg_istore_n (pc := 21) (vs' := [(1, .int (bx_sum (Z 0 5) 120)), (0, .ref (x 12 2))]) hC dX4_endTerm_21 rfl (by decide) rfl ?_
  refine pg_aload_n (pc := 22) hC dX4_endTerm_22 1 rfl rfl ?_
  refine pgX_get0 (pc := 23) hC dX4_endTerm_23 (List.mem_of_getElem? (i := 2) rfl) miX4_endTerm_X4 hokk1 ?_
  refine pg_callVWv (pc := 26) (As := []) (rest := []) hC dX4_endTerm_26 (cX3_beginNextTerm_c l (by decide) hokk1 ) (cwV 0 hC.2.2.2.2.1 gX4_endTerm_X3_beginNextTerm rfl rfl rfl (by decide +kernel) ⟨Nat.le_of_ble_eq_true rfl, Nat.le_of_ble_eq_true rfl⟩) (ok_Sm hokk1 (by decide) 1 (by decide)) (og_So hokk1 (by decide)) rfl rfl rfl rfl (Nat.le_of_ble_eq_true rfl) (Nat.zero_le _) (Nat.zero_le _) (fun f2 hokw2 => ?_)
  refine pg_iload_n (pc := 29) hC dX4_endTerm_29 0 rfl rfl ?_
  exact pg_iret (pc := 30) hC dX4_endTerm_30 rfl ⟨(by first | rfl | (simp [tEnd]; done) | (simp_all [tEnd]; done)), rfl, (by rw [show tEndZ Z nx kp = (va_up (sKeep Z nx kp) 0 (sTerm (Z 0))) from by (first | rfl | (simp [tEndZ]; done))]; exact hokw2)⟩
abbrev rmX4_excuse : Room := { frames := 2, cells := 0, slots := 0, locals := 45 }
theorem miX4_excuse_X3 : ∀ w ∈ wsX30, w ∈ wsX4_excuse := fun _ h => List.mem_cons_of_mem _ (List.mem_append_right _ h)
theorem miX4_excuse_X4 : ∀ w ∈ wsX40, w ∈ wsX4_excuse := fun _ h => List.mem_cons_of_mem _ (List.mem_append_left _ (List.mem_append_right _ h))
set_option maxHeartbeats 2000000 in
set_option maxRecDepth 20000 in
theorem cX4_excuse_c (l : Launch) {κ : pv_Kt} {L : List Nat} {f : Nat → va_E} {x : Nat → Nat → Nat} {Z : Nat → Nat → Nat → Int32} (hok : pv_ok κ x L f Z) (n : Nat) (hn : Z 0 1 0 = nI n) (hn12 : n ≤ 12) (ee wh : Int32) : pv_Mi l κ yX4_excuse wsX4_excuse rmX4_excuse L f [.ref (x 12 2), .int ee, .int wh] 0 0 (pv_R L f (tExcuse (Z 0) ee wh)) := by
  refine pv_startI (cc := cX4_excuse) (maxL := 3) (ret := (some .int)) (by decide) rfl (Nat.le_of_ble_eq_true rfl) (fun A0 P0 E0 S0 M0 a0 B0 T0 C0 hC => ?_)
  refine pg_sub (vs' := [(0, .ref (x 12 2)), (1, .int ee), (2, .int wh)]) [0, 1, 2] rfl ?_
  refine pg_aload_n (pc := 0) hC dX4_excuse_0 0 rfl rfl ?_
  refine pgX_get0 (pc := 1) hC dX4_excuse_1 (List.mem_of_getElem? (i := 1) rfl) miX4_excuse_X4 hok ?_
  refine pg_iload_n (pc := 4) hC dX4_excuse_4 1 rfl rfl ?_
  refine pg_callVRi (pc := 5) (As := [.int ee]) (rest := []) hC dX4_excuse_5 (cX3_hasExcuse_c l (by decide) (ogI hok 0) ee) (cwV 1 hC.2.2.2.2.1 gX4_excuse_X3_hasExcuse rfl rfl rfl (by decide +kernel) ⟨Nat.le_of_ble_eq_true rfl, Nat.le_of_ble_eq_true rfl⟩) (ok_Sm (ogI hok 0) (by decide) 1 (by decide)) (og_So (ogI hok 0) (by decide)) rfl rfl rfl rfl (Nat.le_of_ble_eq_true rfl) (Nat.zero_le _) (Nat.zero_le _) ?_
  refine pg_if_ne (pc := 8) hC 13 dX4_excuse_8 (by decide)  (fun c1 => ?_) (fun c1 => ?_)
  · skip
    obtain ⟨e, he, rfl⟩ := bH_nat hn (by omega) c1
    have cle : cl (nI e) = e := cl_nI (by omega)
    refine pg_iload_n (pc := 13) hC dX4_excuse_13 2 rfl rfl ?_
    rcases tab_cases wh 0 4 (by omega) with ⟨j, hjl, hj, hxj⟩ | c2
    · skip
      rcases (show j = 0 ∨ j = 1 ∨ j = 2 ∨ j = 3 ∨ j = 4 by omega) with rfl | rfl | rfl | rfl | rfl
      · skip
        have c3 : wh = 0 := hxj
        refine pg_tabIn (pc := 14) hC 48 dX4_excuse_14 (by rw [c3]; decide) (by rw [c3]; decide) (by rw [c3]; rfl) (by decide) ?_
        refine pg_aload_n (pc := 48) hC dX4_excuse_48 0 rfl rfl ?_
        refine pgX_get0 (pc := 49) hC dX4_excuse_49 (List.mem_of_getElem? (i := 1) rfl) miX4_excuse_X4 hok ?_
        refine pgS_geta (pc := 52) hC dX4_excuse_52 2 (List.mem_of_getElem? (i := 2) rfl) miX4_excuse_X3 (ogI hok 0) (by decide) (by decide) (by decide) rfl ?_
        refine pg_iload_n (pc := 55) hC dX4_excuse_55 1 rfl rfl ?_
        refine pgS_iald (pc := 56) (v := Z 0 2 e) hC dX4_excuse_56 2 (e) (ogI hok 0) (by decide) (by decide) (by decide) rfl (show e < 12 by omega) rfl ?_
        exact pg_iret (pc := 57) hC dX4_excuse_57 rfl ⟨(by first | rfl | (simp [tExcuse, c1, c3, cle]; done) | (simp_all [tExcuse]; done)), rfl⟩
      · skip
        have c4 : wh = 1 := hxj
        refine pg_tabIn (pc := 14) hC 58 dX4_excuse_14 (by rw [c4]; decide) (by rw [c4]; decide) (by rw [c4]; rfl) (by decide) ?_
        refine pg_aload_n (pc := 58) hC dX4_excuse_58 0 rfl rfl ?_
        refine pgX_get0 (pc := 59) hC dX4_excuse_59 (List.mem_of_getElem? (i := 1) rfl) miX4_excuse_X4 hok ?_
        refine pgS_geta (pc := 62) hC dX4_excuse_62 3 (List.mem_of_getElem? (i := 3) rfl) miX4_excuse_X3 (ogI hok 0) (by decide) (by decide) (by decide) rfl ?_
        refine pg_iload_n (pc := 65) hC dX4_excuse_65 1 rfl rfl ?_
        refine pgS_iald (pc := 66) (v := Z 0 3 e) hC dX4_excuse_66 3 (e) (ogI hok 0) (by decide) (by decide) (by decide) rfl (show e < 12 by omega) rfl ?_
        exact pg_iret (pc := 67) hC dX4_excuse_67 rfl ⟨(by first | rfl | (simp [tExcuse, c1, c4, cle]; done) | (simp_all [tExcuse]; done)), rfl⟩
      · skip
        have c5 : wh = 2 := hxj
        refine pg_tabIn (pc := 14) hC 68 dX4_excuse_14 (by rw [c5]; decide) (by rw [c5]; decide) (by rw [c5]; rfl) (by decide) ?_
        refine pg_aload_n (pc := 68) hC dX4_excuse_68 0 rfl rfl ?_
        refine pgX_get0 (pc := 69) hC dX4_excuse_69 (List.mem_of_getElem? (i := 1) rfl) miX4_excuse_X4 hok ?_
        refine pg_iload_n (pc := 72) hC dX4_excuse_72 1 rfl rfl ?_
        refine pg_callVRi (pc := 73) (As := [.int (nI e)]) (rest := []) hC dX4_excuse_73 (cX3_usesBySchool_c l (by decide) (ogI hok 0) (e) (by omega)) (cwV 1 hC.2.2.2.2.1 gX4_excuse_X3_usesBySchool rfl rfl rfl (by decide +kernel) ⟨Nat.le_of_ble_eq_true rfl, Nat.le_of_ble_eq_true rfl⟩) (ok_Sm (ogI hok 0) (by decide) 1 (by decide)) (og_So (ogI hok 0) (by decide)) rfl rfl rfl rfl (Nat.le_of_ble_eq_true rfl) (Nat.zero_le _) (Nat.zero_le _) ?_
        exact pg_iret (pc := 76) hC dX4_excuse_76 rfl ⟨(by first | rfl | (simp [tExcuse, c1, c5, cle]; done) | (simp_all [tExcuse]; done)), rfl⟩
      · skip
        have c6 : wh = 3 := hxj
        refine pg_tabIn (pc := 14) hC 77 dX4_excuse_14 (by rw [c6]; decide) (by rw [c6]; decide) (by rw [c6]; rfl) (by decide) ?_
        refine pg_aload_n (pc := 77) hC dX4_excuse_77 0 rfl rfl ?_
        refine pgX_get0 (pc := 78) hC dX4_excuse_78 (List.mem_of_getElem? (i := 1) rfl) miX4_excuse_X4 hok ?_
        refine pgS_geta (pc := 81) hC dX4_excuse_81 4 (List.mem_of_getElem? (i := 4) rfl) miX4_excuse_X3 (ogI hok 0) (by decide) (by decide) (by decide) rfl ?_
        refine pg_iload_n (pc := 84) hC dX4_excuse_84 1 rfl rfl ?_
        refine pgS_iald (pc := 85) (v := Z 0 4 e) hC dX4_excuse_85 4 (e) (ogI hok 0) (by decide) (by decide) (by decide) rfl (show e < 12 by omega) rfl ?_
        exact pg_iret (pc := 86) hC dX4_excuse_86 rfl ⟨(by first | rfl | (simp [tExcuse, c1, c6, cle]; done) | (simp_all [tExcuse]; done)), rfl⟩
      · skip
        have c7 : wh = 4 := hxj
        refine pg_tabIn (pc := 14) hC 87 dX4_excuse_14 (by rw [c7]; decide) (by rw [c7]; decide) (by rw [c7]; rfl) (by decide) ?_
        refine pg_aload_n (pc := 87) hC dX4_excuse_87 0 rfl rfl ?_
        refine pgX_get0 (pc := 88) hC dX4_excuse_88 (List.mem_of_getElem? (i := 1) rfl) miX4_excuse_X4 hok ?_
        refine pg_iload_n (pc := 91) hC dX4_excuse_91 1 rfl rfl ?_
        refine pg_callVRi (pc := 92) (As := [.int (nI e)]) (rest := []) hC dX4_excuse_92 (cX3_usersOf_c l (by decide) (ogI hok 0) (e) (by omega)) (cwV 1 hC.2.2.2.2.1 gX4_excuse_X3_usersOf rfl rfl rfl (by decide +kernel) ⟨Nat.le_of_ble_eq_true rfl, Nat.le_of_ble_eq_true rfl⟩) (ok_Sm (ogI hok 0) (by decide) 1 (by decide)) (og_So (ogI hok 0) (by decide)) rfl rfl rfl rfl (Nat.le_of_ble_eq_true rfl) (Nat.zero_le _) (Nat.zero_le _) ?_
        exact pg_iret (pc := 95) hC dX4_excuse_95 rfl ⟨(by first | rfl | (simp [tExcuse, c1, c7, cle]; done) | (simp_all [tExcuse]; done)), rfl⟩
    · skip
      refine pg_tabOut (pc := 14) hC 96 dX4_excuse_14 c2 (by decide) ?_
      have n8 : ¬ wh = 0 := fun q => by rw [q] at c2; revert c2; decide
      have n9 : ¬ wh = 1 := fun q => by rw [q] at c2; revert c2; decide
      have n10 : ¬ wh = 2 := fun q => by rw [q] at c2; revert c2; decide
      have n11 : ¬ wh = 3 := fun q => by rw [q] at c2; revert c2; decide
      have n12 : ¬ wh = 4 := fun q => by rw [q] at c2; revert c2; decide
      refine pg_bipush (pc := 96) (v := (-2)) hC dX4_excuse_96 (by decide) ?_
      exact pg_iret (pc := 98) hC dX4_excuse_98 rfl ⟨(by first | rfl | (simp [tExcuse, c1, n8, n9, n10, n11, n12, cle]; done) | (simp_all [tExcuse]; done)), rfl⟩
  · skip
    refine pg_iconst (pc := 11) (v := (-1)) hC dX4_excuse_11 (by decide) ?_
    exact pg_iret (pc := 12) hC dX4_excuse_12 rfl ⟨(by first | rfl | (simp [tExcuse, c1]; done) | (simp_all [tExcuse]; done)), rfl⟩
abbrev rmX4_pupil : Room := { frames := 2, cells := 0, slots := 0, locals := 45 }
theorem miX4_pupil_X3 : ∀ w ∈ wsX30, w ∈ wsX4_pupil := fun _ h => List.mem_cons_of_mem _ (List.mem_append_right _ h)
theorem miX4_pupil_X4 : ∀ w ∈ wsX40, w ∈ wsX4_pupil := fun _ h => List.mem_cons_of_mem _ (List.mem_append_left _ (List.mem_append_right _ h))
set_option maxHeartbeats 2000000 in
set_option maxRecDepth 20000 in
theorem cX4_pupil_c (l : Launch) {κ : pv_Kt} {L : List Nat} {f : Nat → va_E} {x : Nat → Nat → Nat} {Z : Nat → Nat → Nat → Int32} (hok : pv_ok κ x L f Z) (pp wh : Int32) : pv_Mi l κ yX4_pupil wsX4_pupil rmX4_pupil L f [.ref (x 12 2), .int pp, .int wh] 0 0 (pv_R L f (tPupil (Z 0) pp wh)) := by
  refine pv_startI (cc := cX4_pupil) (maxL := 3) (ret := (some .int)) (by decide) rfl (Nat.le_of_ble_eq_true rfl) (fun A0 P0 E0 S0 M0 a0 B0 T0 C0 hC => ?_)
  refine pg_sub (vs' := [(0, .ref (x 12 2)), (1, .int pp), (2, .int wh)]) [0, 1, 2] rfl ?_
  refine pg_iload_n (pc := 0) hC dX4_pupil_0 1 rfl rfl ?_
  refine pg_callSRi (pc := 1) (As := [.int pp]) (rest := []) hC dX4_pupil_1 (cX4_isPupil_c l pp) (va_cwS 1 hC.2.2.2.2.1 gX4_pupil_X4_isPupil rfl rfl rfl (by decide +kernel) ⟨Nat.le_of_ble_eq_true rfl, Nat.le_of_ble_eq_true rfl⟩) rfl rfl (Nat.le_of_ble_eq_true rfl) (Nat.zero_le _) (Nat.zero_le _) ?_
  refine pg_if_ne (pc := 4) hC 9 dX4_pupil_4 (by decide)  (fun c1 => ?_) (fun c1 => ?_)
  · skip
    obtain ⟨p, hp, rfl⟩ := bW_nat (m := 9) rfl (by decide) c1
    have clp : cl (nI p) = p := cl_nI (by omega)
    refine pg_iload_n (pc := 9) hC dX4_pupil_9 2 rfl rfl ?_
    rcases tab_cases wh 0 7 (by omega) with ⟨j, hjl, hj, hxj⟩ | c2
    · skip
      rcases (show j = 0 ∨ j = 1 ∨ j = 2 ∨ j = 3 ∨ j = 4 ∨ j = 5 ∨ j = 6 ∨ j = 7 by omega) with rfl | rfl | rfl | rfl | rfl | rfl | rfl | rfl
      · skip
        have c3 : wh = 0 := hxj
        refine pg_tabIn (pc := 10) hC 56 dX4_pupil_10 (by rw [c3]; decide) (by rw [c3]; decide) (by rw [c3]; rfl) (by decide) ?_
        refine pg_aload_n (pc := 56) hC dX4_pupil_56 0 rfl rfl ?_
        refine pgX_get0 (pc := 57) hC dX4_pupil_57 (List.mem_of_getElem? (i := 1) rfl) miX4_pupil_X4 hok ?_
        refine pgS_geta (pc := 60) hC dX4_pupil_60 6 (List.mem_of_getElem? (i := 2) rfl) miX4_pupil_X3 (ogI hok 0) (by decide) (by decide) (by decide) rfl ?_
        refine pg_iload_n (pc := 63) hC dX4_pupil_63 1 rfl rfl ?_
        refine pgS_iald (pc := 64) (v := Z 0 6 p) hC dX4_pupil_64 6 (p) (ogI hok 0) (by decide) (by decide) (by decide) rfl (show p < 10 by omega) rfl ?_
        exact pg_iret (pc := 65) hC dX4_pupil_65 rfl ⟨(by first | rfl | (simp [tPupil, c1, c3, clp]; done) | (simp_all [tPupil]; done)), rfl⟩
      · skip
        have c4 : wh = 1 := hxj
        refine pg_tabIn (pc := 10) hC 66 dX4_pupil_10 (by rw [c4]; decide) (by rw [c4]; decide) (by rw [c4]; rfl) (by decide) ?_
        refine pg_aload_n (pc := 66) hC dX4_pupil_66 0 rfl rfl ?_
        refine pgX_get0 (pc := 67) hC dX4_pupil_67 (List.mem_of_getElem? (i := 1) rfl) miX4_pupil_X4 hok ?_
        refine pgS_geta (pc := 70) hC dX4_pupil_70 7 (List.mem_of_getElem? (i := 3) rfl) miX4_pupil_X3 (ogI hok 0) (by decide) (by decide) (by decide) rfl ?_
        refine pg_iload_n (pc := 73) hC dX4_pupil_73 1 rfl rfl ?_
        refine pgS_iald (pc := 74) (v := Z 0 7 p) hC dX4_pupil_74 7 (p) (ogI hok 0) (by decide) (by decide) (by decide) rfl (show p < 10 by omega) rfl ?_
        exact pg_iret (pc := 75) hC dX4_pupil_75 rfl ⟨(by first | rfl | (simp [tPupil, c1, c4, clp]; done) | (simp_all [tPupil]; done)), rfl⟩
      · skip
        have c5 : wh = 2 := hxj
        refine pg_tabIn (pc := 10) hC 76 dX4_pupil_10 (by rw [c5]; decide) (by rw [c5]; decide) (by rw [c5]; rfl) (by decide) ?_
        refine pg_aload_n (pc := 76) hC dX4_pupil_76 0 rfl rfl ?_
        refine pgX_get0 (pc := 77) hC dX4_pupil_77 (List.mem_of_getElem? (i := 1) rfl) miX4_pupil_X4 hok ?_
        refine pgS_geta (pc := 80) hC dX4_pupil_80 9 (List.mem_of_getElem? (i := 4) rfl) miX4_pupil_X3 (ogI hok 0) (by decide) (by decide) (by decide) rfl ?_
        refine pg_iload_n (pc := 83) hC dX4_pupil_83 1 rfl rfl ?_
        refine pgS_iald (pc := 84) (v := Z 0 9 p) hC dX4_pupil_84 9 (p) (ogI hok 0) (by decide) (by decide) (by decide) rfl (show p < 10 by omega) rfl ?_
        exact pg_iret (pc := 85) hC dX4_pupil_85 rfl ⟨(by first | rfl | (simp [tPupil, c1, c5, clp]; done) | (simp_all [tPupil]; done)), rfl⟩
      · skip
        have c6 : wh = 3 := hxj
        refine pg_tabIn (pc := 10) hC 86 dX4_pupil_10 (by rw [c6]; decide) (by rw [c6]; decide) (by rw [c6]; rfl) (by decide) ?_
        refine pg_aload_n (pc := 86) hC dX4_pupil_86 0 rfl rfl ?_
        refine pgX_get0 (pc := 87) hC dX4_pupil_87 (List.mem_of_getElem? (i := 1) rfl) miX4_pupil_X4 hok ?_
        refine pgS_geta (pc := 90) hC dX4_pupil_90 10 (List.mem_of_getElem? (i := 5) rfl) miX4_pupil_X3 (ogI hok 0) (by decide) (by decide) (by decide) rfl ?_
        refine pg_iload_n (pc := 93) hC dX4_pupil_93 1 rfl rfl ?_
        refine pgS_iald (pc := 94) (v := Z 0 10 p) hC dX4_pupil_94 10 (p) (ogI hok 0) (by decide) (by decide) (by decide) rfl (show p < 10 by omega) rfl ?_
        exact pg_iret (pc := 95) hC dX4_pupil_95 rfl ⟨(by first | rfl | (simp [tPupil, c1, c6, clp]; done) | (simp_all [tPupil]; done)), rfl⟩
      · skip
        have c7 : wh = 4 := hxj
        refine pg_tabIn (pc := 10) hC 96 dX4_pupil_10 (by rw [c7]; decide) (by rw [c7]; decide) (by rw [c7]; rfl) (by decide) ?_
        refine pg_aload_n (pc := 96) hC dX4_pupil_96 0 rfl rfl ?_
        refine pgX_get0 (pc := 97) hC dX4_pupil_97 (List.mem_of_getElem? (i := 1) rfl) miX4_pupil_X4 hok ?_
        refine pgS_geta (pc := 100) hC dX4_pupil_100 11 (List.mem_of_getElem? (i := 6) rfl) miX4_pupil_X3 (ogI hok 0) (by decide) (by decide) (by decide) rfl ?_
        refine pg_iload_n (pc := 103) hC dX4_pupil_103 1 rfl rfl ?_
        refine pgS_iald (pc := 104) (v := Z 0 11 p) hC dX4_pupil_104 11 (p) (ogI hok 0) (by decide) (by decide) (by decide) rfl (show p < 10 by omega) rfl ?_
        exact pg_iret (pc := 105) hC dX4_pupil_105 rfl ⟨(by first | rfl | (simp [tPupil, c1, c7, clp]; done) | (simp_all [tPupil]; done)), rfl⟩
      · skip
        have c8 : wh = 5 := hxj
        refine pg_tabIn (pc := 10) hC 106 dX4_pupil_10 (by rw [c8]; decide) (by rw [c8]; decide) (by rw [c8]; rfl) (by decide) ?_
        refine pg_aload_n (pc := 106) hC dX4_pupil_106 0 rfl rfl ?_
        refine pgX_get0 (pc := 107) hC dX4_pupil_107 (List.mem_of_getElem? (i := 1) rfl) miX4_pupil_X4 hok ?_
        refine pg_iload_n (pc := 110) hC dX4_pupil_110 1 rfl rfl ?_
        refine pg_callVRi (pc := 111) (As := [.int (nI p)]) (rest := []) hC dX4_pupil_111 (cX3_usesByPupil_c l (by decide) (ogI hok 0) (p) (by omega)) (cwV 1 hC.2.2.2.2.1 gX4_pupil_X3_usesByPupil rfl rfl rfl (by decide +kernel) ⟨Nat.le_of_ble_eq_true rfl, Nat.le_of_ble_eq_true rfl⟩) (ok_Sm (ogI hok 0) (by decide) 1 (by decide)) (og_So (ogI hok 0) (by decide)) rfl rfl rfl rfl (Nat.le_of_ble_eq_true rfl) (Nat.zero_le _) (Nat.zero_le _) ?_
        exact pg_iret (pc := 114) hC dX4_pupil_114 rfl ⟨(by first | rfl | (simp [tPupil, c1, c8, clp]; done) | (simp_all [tPupil]; done)), rfl⟩
      · skip
        have c9 : wh = 6 := hxj
        refine pg_tabIn (pc := 10) hC 115 dX4_pupil_10 (by rw [c9]; decide) (by rw [c9]; decide) (by rw [c9]; rfl) (by decide) ?_
        refine pg_aload_n (pc := 115) hC dX4_pupil_115 0 rfl rfl ?_
        refine pgX_get0 (pc := 116) hC dX4_pupil_116 (List.mem_of_getElem? (i := 1) rfl) miX4_pupil_X4 hok ?_
        refine pgS_geta (pc := 119) hC dX4_pupil_119 12 (List.mem_of_getElem? (i := 7) rfl) miX4_pupil_X3 (ogI hok 0) (by decide) (by decide) (by decide) rfl ?_
        refine pg_iload_n (pc := 122) hC dX4_pupil_122 1 rfl rfl ?_
        refine pg_callSRi (pc := 123) (As := [.int (nI p)]) (rest := [.ref (x 0 12)]) hC dX4_pupil_123 (cX4_classOf_c l (p) (by omega)) (va_cwS 1 hC.2.2.2.2.1 gX4_pupil_X4_classOf rfl rfl rfl (by decide +kernel) ⟨Nat.le_of_ble_eq_true rfl, Nat.le_of_ble_eq_true rfl⟩) rfl rfl (Nat.le_of_ble_eq_true rfl) (Nat.zero_le _) (Nat.zero_le _) ?_
        refine pgS_iald (pc := 126) (v := Z 0 12 (p / 2)) hC dX4_pupil_126 12 (p / 2) (ogI hok 0) (by decide) (by decide) (by decide) rfl (show (p / 2) < 5 by omega) rfl ?_
        exact pg_iret (pc := 127) hC dX4_pupil_127 rfl ⟨(by first | rfl | (simp [tPupil, c1, c9, clp]; done) | (simp_all [tPupil]; done)), rfl⟩
      · skip
        have c10 : wh = 7 := hxj
        refine pg_tabIn (pc := 10) hC 128 dX4_pupil_10 (by rw [c10]; decide) (by rw [c10]; decide) (by rw [c10]; rfl) (by decide) ?_
        refine pg_aload_n (pc := 128) hC dX4_pupil_128 0 rfl rfl ?_
        refine pgX_get0 (pc := 129) hC dX4_pupil_129 (List.mem_of_getElem? (i := 1) rfl) miX4_pupil_X4 hok ?_
        refine pgS_geta (pc := 132) hC dX4_pupil_132 8 (List.mem_of_getElem? (i := 8) rfl) miX4_pupil_X3 (ogI hok 0) (by decide) (by decide) (by decide) rfl ?_
        refine pg_iload_n (pc := 135) hC dX4_pupil_135 1 rfl rfl ?_
        refine pgS_iald (pc := 136) (v := Z 0 8 p) hC dX4_pupil_136 8 (p) (ogI hok 0) (by decide) (by decide) (by decide) rfl (show p < 10 by omega) rfl ?_
        exact pg_iret (pc := 137) hC dX4_pupil_137 rfl ⟨(by first | rfl | (simp [tPupil, c1, c10, clp]; done) | (simp_all [tPupil]; done)), rfl⟩
    · skip
      refine pg_tabOut (pc := 10) hC 138 dX4_pupil_10 c2 (by decide) ?_
      have n11 : ¬ wh = 0 := fun q => by rw [q] at c2; revert c2; decide
      have n12 : ¬ wh = 1 := fun q => by rw [q] at c2; revert c2; decide
      have n13 : ¬ wh = 2 := fun q => by rw [q] at c2; revert c2; decide
      have n14 : ¬ wh = 3 := fun q => by rw [q] at c2; revert c2; decide
      have n15 : ¬ wh = 4 := fun q => by rw [q] at c2; revert c2; decide
      have n16 : ¬ wh = 5 := fun q => by rw [q] at c2; revert c2; decide
      have n17 : ¬ wh = 6 := fun q => by rw [q] at c2; revert c2; decide
      have n18 : ¬ wh = 7 := fun q => by rw [q] at c2; revert c2; decide
      refine pg_bipush (pc := 138) (v := (-2)) hC dX4_pupil_138 (by decide) ?_
      exact pg_iret (pc := 140) hC dX4_pupil_140 rfl ⟨(by first | rfl | (simp [tPupil, c1, n11, n12, n13, n14, n15, n16, n17, n18, clp]; done) | (simp_all [tPupil]; done)), rfl⟩
  · skip
    refine pg_iconst (pc := 7) (v := (-1)) hC dX4_pupil_7 (by decide) ?_
    exact pg_iret (pc := 8) hC dX4_pupil_8 rfl ⟨(by first | rfl | (simp [tPupil, c1]; done) | (simp_all [tPupil]; done)), rfl⟩
