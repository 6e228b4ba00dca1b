abbrev rmX5_users : Room := { frames := 1, cells := 0, slots := 0, locals := 22 }
set_option maxHeartbeats 2000000 in
set_option maxRecDepth 20000 in
theorem cX5_users_c (l : Launch) {κ : pv_Kt} {L : List Nat} {f : Nat → va_E} {x : Nat → Nat → Nat} {Z : Nat → Nat → Nat → Int32} {g : Nat → Nat → Int32} (hok : pv_ok κ x L f (va_up Z 11 g)) {z : Nat → Nat → Int32} (hR : mR z (g 0)) (e : Nat) (he : e < 12) : pv_Mi l κ yX5_users wsX5_users rmX5_users L f [.ref (x 11 2), .int (nI e)] 0 0 (pv_R L f (sUsers z e)) := by
  refine pv_startI (cc := cX5_users) (maxL := 4) (ret := (some .int)) (by decide) rfl (Nat.le_of_ble_eq_true rfl) (fun A0 P0 E0 S0 M0 a0 B0 T0 C0 hC => ?_)
  refine pg_sub (vs' := [(0, .ref (x 11 2)), (1, .int (nI e))]) [0, 1] rfl ?_
  refine pg_iconst (pc := 0) (v := 0) hC dX5_users_0 (by decide) ?_
  refine pg_istore_n (pc := 1) (vs' := [(2, .int 0), (0, .ref (x 11 2)), (1, .int (nI e))]) hC dX5_users_1 rfl (by decide) rfl ?_
  refine pg_iconst (pc := 2) (v := 0) hC dX5_users_2 (by decide) ?_
  refine pg_istore_n (pc := 3) (vs' := [(3, .int 0), (2, .int 0), (0, .ref (x 11 2)), (1, .int (nI e))]) hC dX5_users_3 rfl (by decide) rfl ?_
  refine pg_sub (vs' := [(0, .ref (x 11 2)), (1, .int (nI e)), (2, .int 0), (3, .int 0)]) [2, 3, 1, 0] rfl ?_
  refine pg_loop (pc := 4) (σ := Nat) (I := fun q => match q with | k => k ≤ 10) (μ := fun q => match q with | k => 10 - k) (VS := fun q => match q with | k => [(0, .ref (x 11 2)), (1, .int (nI e)), (2, .int (sSet (fun p => sU z p e) k)), (3, .int (nI k))]) (FF := fun q => match q with | k => f) ?_ (0) (by decide)
  intro q hI ih1
  obtain ⟨k, rfl⟩ : ∃ z, z = q := ⟨_, rfl⟩
  dsimp only at hI ih1 ⊢
  have hI2 := hI
  obtain hk := hI
  refine pg_iload_n (pc := 4) hC dX5_users_4 3 rfl rfl ?_
  refine pg_bipush (pc := 5) (v := 10) hC dX5_users_5 (by decide) ?_
  refine pg_icmp_geN (pc := 7) hC 35 dX5_users_7 (by decide) (k) (10) rfl rfl (by omega) (by omega) (fun c2 => ?_) (fun c2 => ?_)
  · skip
    refine pg_iload_n (pc := 35) hC dX5_users_35 2 rfl rfl ?_
    exact pg_iret (pc := 36) hC dX5_users_36 rfl ⟨(by rw [show k = 10 by omega]; rfl), rfl⟩
  · skip
    refine pg_iload_n (pc := 10) hC dX5_users_10 2 rfl rfl ?_
    refine pg_aload_n (pc := 11) hC dX5_users_11 0 rfl rfl ?_
    refine pg_iload_n (pc := 12) hC dX5_users_12 3 rfl rfl ?_
    refine pg_iload_n (pc := 13) hC dX5_users_13 1 rfl rfl ?_
    refine pg_callVRi (pc := 14) (As := [.int (nI k), .int (nI e)]) (rest := [.int (sSet (fun p => sU z p e) k)]) hC dX5_users_14 (cX5_uses_c l hok hR (k) (e) (by omega) (by omega)) (cwV 2 hC.2.2.2.2.1 gX5_users_X5_uses rfl rfl rfl (by decide +kernel) ⟨Nat.le_of_ble_eq_true rfl, Nat.le_of_ble_eq_true rfl⟩) (ok_mem hok (by decide)) (ok_Mo hok) rfl rfl rfl rfl (Nat.le_of_ble_eq_true rfl) (Nat.zero_le _) (Nat.zero_le _) ?_
    refine pg_if_le (pc := 17) hC 26 dX5_users_17 (by decide)  (fun c3 => ?_) (fun c3 => ?_)
    · skip
      refine pg_iconst (pc := 26) (v := 0) hC dX5_users_26 (by decide) ?_
      refine pg_ior (pc := 27) (v := (sSet (fun p => sU z p e) k) ||| 0) hC dX5_users_27 rfl ?_
      refine pg_istore_n (pc := 28) (vs' := [(2, .int ((sSet (fun p => sU z p e) k) ||| 0)), (0, .ref (x 11 2)), (1, .int (nI e)), (3, .int (nI k))]) hC dX5_users_28 rfl (by decide) rfl ?_
      refine pg_iinc (pc := 29) (v := nI (k + 1)) (vs' := [(3, .int (nI (k + 1))), (2, .int ((sSet (fun p => sU z p e) k) ||| 0)), (0, .ref (x 11 2)), (1, .int (nI e))]) hC dX5_users_29 3 rfl (nI_add (k) 1) (by decide) rfl ?_
      refine pg_goto (pc := 32) hC 4 dX5_users_32 (by decide) ?_
      refine pg_sub (vs' := [(0, .ref (x 11 2)), (1, .int (nI e)), (2, .int ((sSet (fun p => sU z p e) k) ||| 0)), (3, .int (nI (k + 1)))]) [2, 3, 1, 0] rfl ?_
      refine pg_vs (vs' := [(0, .ref (x 11 2)), (1, .int (nI e)), (2, .int (sSet (fun p => sU z p e) (k + 1))), (3, .int (nI (k + 1)))]) (by rw [show sSet (fun p => sU z p e) (k + 1) = _ from if_neg (fun q => absurd c3 (Int32.not_le.mpr q)), Int32.or_zero]) ?_
      exact ih1 (k + 1) (by omega) (by omega)
    · skip
      refine pg_iconst (pc := 20) (v := 1) hC dX5_users_20 (by decide) ?_
      refine pg_iload_n (pc := 21) hC dX5_users_21 3 rfl rfl ?_
      refine pg_ishl (pc := 22) (v := 1 <<< ((nI k) &&& 31)) hC dX5_users_22 rfl ?_
      refine pg_goto (pc := 23) hC 27 dX5_users_23 (by decide) ?_
      refine pg_ior (pc := 27) (v := (sSet (fun p => sU z p e) k) ||| (1 <<< ((nI k) &&& 31))) hC dX5_users_27 rfl ?_
      refine pg_istore_n (pc := 28) (vs' := [(2, .int ((sSet (fun p => sU z p e) k) ||| (1 <<< ((nI k) &&& 31)))), (0, .ref (x 11 2)), (1, .int (nI e)), (3, .int (nI k))]) hC dX5_users_28 rfl (by decide) rfl ?_
      refine pg_iinc (pc := 29) (v := nI (k + 1)) (vs' := [(3, .int (nI (k + 1))), (2, .int ((sSet (fun p => sU z p e) k) ||| (1 <<< ((nI k) &&& 31)))), (0, .ref (x 11 2)), (1, .int (nI e))]) hC dX5_users_29 3 rfl (nI_add (k) 1) (by decide) rfl ?_
      refine pg_goto (pc := 32) hC 4 dX5_users_32 (by decide) ?_
      refine pg_sub (vs' := [(0, .ref (x 11 2)), (1, .int (nI e)), (2, .int ((sSet (fun p => sU z p e) k) ||| (1 <<< ((nI k) &&& 31)))), (3, .int (nI (k + 1)))]) [2, 3, 1, 0] rfl ?_
      refine pg_vs (vs' := [(0, .ref (x 11 2)), (1, .int (nI e)), (2, .int (sSet (fun p => sU z p e) (k + 1))), (3, .int (nI (k + 1)))]) (by rw [show sSet (fun p => sU z p e) (k + 1) = _ from if_pos (Int32.not_le.mp c3)]; try rfl) ?_
      exact ih1 (k + 1) (by omega) (by omega)
abbrev rmX5_excuse : Room := { frames := 2, cells := 0, slots := 0, locals := 45 }
set_option maxHeartbeats 2000000 in
set_option maxRecDepth 20000 in
theorem cX5_excuse_c (l : Launch) {κ : pv_Kt} {L : List Nat} {f : Nat → va_E} {x : Nat → Nat → Nat} {Z : Nat → Nat → Nat → Int32} {g : Nat → Nat → Int32} (hok : pv_ok κ x L f (va_up Z 11 g)) {z : Nat → Nat → Int32} (hR : mR z (g 0)) {n : Nat} (hG : gd z n) (ee wh : Int32) : pv_Mi l κ yX5_excuse wsX5_excuse rmX5_excuse L f [.ref (x 11 2), .int ee, .int wh] 0 0 (pv_R L f (tExcuse z ee wh)) := by
  refine pv_startI (cc := cX5_excuse) (maxL := 3) (ret := (some .int)) (by decide) rfl (Nat.le_of_ble_eq_true rfl) (fun A0 P0 E0 S0 M0 a0 B0 T0 C0 hC => ?_)
  refine pg_sub (vs' := [(0, .ref (x 11 2)), (1, .int ee), (2, .int wh)]) [0, 1, 2] rfl ?_
  have hn12 := hG.n12
  refine pg_aload_n (pc := 0) hC dX5_excuse_0 0 rfl rfl ?_
  refine pg_iload_n (pc := 1) hC dX5_excuse_1 1 rfl rfl ?_
  refine pg_callVRi (pc := 2) (As := [.int ee]) (rest := []) hC dX5_excuse_2 (cX5_isExcuse_c l hok hR hG ee) (cwV 1 hC.2.2.2.2.1 gX5_excuse_X5_isExcuse rfl rfl rfl (by decide +kernel) ⟨Nat.le_of_ble_eq_true rfl, Nat.le_of_ble_eq_true rfl⟩) (ok_mem hok (by decide)) (ok_Mo hok) rfl rfl rfl rfl (Nat.le_of_ble_eq_true rfl) (Nat.zero_le _) (Nat.zero_le _) ?_
  refine pg_if_ne (pc := 5) hC 10 dX5_excuse_5 (by decide)  (fun c1 => ?_) (fun c1 => ?_)
  · skip
    obtain ⟨e, he, rfl⟩ := bH_nat hG.n (by omega) c1
    have cle : cl (nI e) = e := cl_nI (by omega)
    refine pg_iload_n (pc := 10) hC dX5_excuse_10 2 rfl rfl ?_
    rcases tab_cases wh 0 4 (by omega) with ⟨j, hjl, hj, hxj⟩ | c2
    · skip
      rcases (show j = 0 ∨ j = 1 ∨ j = 2 ∨ j = 3 ∨ j = 4 by omega) with rfl | rfl | rfl | rfl | rfl
      · skip
        have c3 : wh = 0 := hxj
        refine pg_tabIn (pc := 11) hC 44 dX5_excuse_11 (by rw [c3]; decide) (by rw [c3]; decide) (by rw [c3]; rfl) (by decide) ?_
        subst c3
        refine pg_aload_n (pc := 44) hC dX5_excuse_44 0 rfl rfl ?_
        refine pg_iload_n (pc := 45) hC dX5_excuse_45 1 rfl rfl ?_
        refine pg_iload_n (pc := 46) hC dX5_excuse_46 2 rfl rfl ?_
        refine pg_callVRi (pc := 47) (As := [.int (nI e), .int 0]) (rest := []) hC dX5_excuse_47 (cX5_ofExcuse_c l hok (e) (0) (by omega) (by omega)) (cwV 2 hC.2.2.2.2.1 gX5_excuse_X5_ofExcuse rfl rfl rfl (by decide +kernel) ⟨Nat.le_of_ble_eq_true rfl, Nat.le_of_ble_eq_true rfl⟩) (ok_mem hok (by decide)) (ok_Mo hok) rfl rfl rfl rfl (Nat.le_of_ble_eq_true rfl) (Nat.zero_le _) (Nat.zero_le _) ?_
        refine pg_top (x' := z 2 e) (hR 2 e (show e < 12 by omega)) ?_
        exact pg_iret (pc := 50) hC dX5_excuse_50 rfl ⟨(by first | rfl | (simp [tExcuse, c1, cle]; done) | (simp_all [tExcuse]; done)), rfl⟩
      · skip
        have c4 : wh = 1 := hxj
        refine pg_tabIn (pc := 11) hC 44 dX5_excuse_11 (by rw [c4]; decide) (by rw [c4]; decide) (by rw [c4]; rfl) (by decide) ?_
        subst c4
        refine pg_aload_n (pc := 44) hC dX5_excuse_44 0 rfl rfl ?_
        refine pg_iload_n (pc := 45) hC dX5_excuse_45 1 rfl rfl ?_
        refine pg_iload_n (pc := 46) hC dX5_excuse_46 2 rfl rfl ?_
        refine pg_callVRi (pc := 47) (As := [.int (nI e), .int 1]) (rest := []) hC dX5_excuse_47 (cX5_ofExcuse_c l hok (e) (1) (by omega) (by omega)) (cwV 2 hC.2.2.2.2.1 gX5_excuse_X5_ofExcuse rfl rfl rfl (by decide +kernel) ⟨Nat.le_of_ble_eq_true rfl, Nat.le_of_ble_eq_true rfl⟩) (ok_mem hok (by decide)) (ok_Mo hok) rfl rfl rfl rfl (Nat.le_of_ble_eq_true rfl) (Nat.zero_le _) (Nat.zero_le _) ?_
        refine pg_top (x' := z 3 e) (hR 3 e (show e < 12 by omega)) ?_
        exact pg_iret (pc := 50) hC dX5_excuse_50 rfl ⟨(by first | rfl | (simp [tExcuse, c1, cle]; done) | (simp_all [tExcuse]; done)), rfl⟩
      · skip
        have c5 : wh = 2 := hxj
        refine pg_tabIn (pc := 11) hC 51 dX5_excuse_11 (by rw [c5]; decide) (by rw [c5]; decide) (by rw [c5]; rfl) (by decide) ?_
        subst c5
        refine pg_aload_n (pc := 51) hC dX5_excuse_51 0 rfl rfl ?_
        refine pg_iload_n (pc := 52) hC dX5_excuse_52 1 rfl rfl ?_
        refine pg_callVRi (pc := 53) (As := [.int (nI e)]) (rest := []) hC dX5_excuse_53 (cX5_usesBySchool_c l hok hR (e) (by omega)) (cwV 1 hC.2.2.2.2.1 gX5_excuse_X5_usesBySchool rfl rfl rfl (by decide +kernel) ⟨Nat.le_of_ble_eq_true rfl, Nat.le_of_ble_eq_true rfl⟩) (ok_mem hok (by decide)) (ok_Mo hok) rfl rfl rfl rfl (Nat.le_of_ble_eq_true rfl) (Nat.zero_le _) (Nat.zero_le _) ?_
        exact pg_iret (pc := 56) hC dX5_excuse_56 rfl ⟨(by first | rfl | (simp [tExcuse, c1, cle]; done) | (simp_all [tExcuse]; done)), rfl⟩
      · skip
        have c6 : wh = 3 := hxj
        refine pg_tabIn (pc := 11) hC 57 dX5_excuse_11 (by rw [c6]; decide) (by rw [c6]; decide) (by rw [c6]; rfl) (by decide) ?_
        subst c6
        refine pg_aload_n (pc := 57) hC dX5_excuse_57 0 rfl rfl ?_
        refine pg_iload_n (pc := 58) hC dX5_excuse_58 1 rfl rfl ?_
        refine pg_iconst (pc := 59) (v := 2) hC dX5_excuse_59 (by decide) ?_
        refine pg_callVRi (pc := 60) (As := [.int (nI e), .int 2]) (rest := []) hC dX5_excuse_60 (cX5_ofExcuse_c l hok (e) (2) (by omega) (by omega)) (cwV 2 hC.2.2.2.2.1 gX5_excuse_X5_ofExcuse rfl rfl rfl (by decide +kernel) ⟨Nat.le_of_ble_eq_true rfl, Nat.le_of_ble_eq_true rfl⟩) (ok_mem hok (by decide)) (ok_Mo hok) rfl rfl rfl rfl (Nat.le_of_ble_eq_true rfl) (Nat.zero_le _) (Nat.zero_le _) ?_
        refine pg_top (x' := z 4 e) (hR 4 e (show e < 12 by omega)) ?_
        exact pg_iret (pc := 63) hC dX5_excuse_63 rfl ⟨(by first | rfl | (simp [tExcuse, c1, cle]; done) | (simp_all [tExcuse]; done)), rfl⟩
      · skip
        have c7 : wh = 4 := hxj
        refine pg_tabIn (pc := 11) hC 64 dX5_excuse_11 (by rw [c7]; decide) (by rw [c7]; decide) (by rw [c7]; rfl) (by decide) ?_
        subst c7
        refine pg_aload_n (pc := 64) hC dX5_excuse_64 0 rfl rfl ?_
        refine pg_iload_n (pc := 65) hC dX5_excuse_65 1 rfl rfl ?_
        refine pg_callVRi (pc := 66) (As := [.int (nI e)]) (rest := []) hC dX5_excuse_66 (cX5_users_c l hok hR (e) (by omega)) (cwV 1 hC.2.2.2.2.1 gX5_excuse_X5_users rfl rfl rfl (by decide +kernel) ⟨Nat.le_of_ble_eq_true rfl, Nat.le_of_ble_eq_true rfl⟩) (ok_mem hok (by decide)) (ok_Mo hok) rfl rfl rfl rfl (Nat.le_of_ble_eq_true rfl) (Nat.zero_le _) (Nat.zero_le _) ?_
        exact pg_iret (pc := 69) hC dX5_excuse_69 rfl ⟨(by first | rfl | (simp [tExcuse, c1, cle]; done) | (simp_all [tExcuse]; done)), rfl⟩
    · skip
      refine pg_tabOut (pc := 11) hC 70 dX5_excuse_11 c2 (by decide) ?_
      have n8 : ¬ wh = 0 := fun q => by rw [q] at c2; revert c2; decide
      have n9 : ¬ wh = 1 := fun q => by rw [q] at c2; revert c2; decide
      have n10 : ¬ wh = 2 := fun q => by rw [q] at c2; revert c2; decide
      have n11 : ¬ wh = 3 := fun q => by rw [q] at c2; revert c2; decide
      have n12 : ¬ wh = 4 := fun q => by rw [q] at c2; revert c2; decide
      refine pg_bipush (pc := 70) (v := (-2)) hC dX5_excuse_70 (by decide) ?_
      exact pg_iret (pc := 72) hC dX5_excuse_72 rfl ⟨(by first | rfl | (simp [tExcuse, c1, n8, n9, n10, n11, n12, cle]; done) | (simp_all [tExcuse]; done)), rfl⟩
  · skip
    refine pg_iconst (pc := 8) (v := (-1)) hC dX5_excuse_8 (by decide) ?_
    exact pg_iret (pc := 9) hC dX5_excuse_9 rfl ⟨(by first | rfl | (simp [tExcuse, c1]; done) | (simp_all [tExcuse]; done)), rfl⟩
abbrev rmX5_usesBy : Room := { frames := 1, cells := 0, slots := 0, locals := 22 }
theorem miX5_usesBy_X5 : ∀ w ∈ wsX50, w ∈ wsX5_usesBy := fun _ h => List.mem_cons_of_mem _ (List.mem_append_right _ h)
set_option maxHeartbeats 2000000 in
set_option maxRecDepth 20000 in
theorem cX5_usesBy_c (l : Launch) {κ : pv_Kt} {L : List Nat} {f : Nat → va_E} {x : Nat → Nat → Nat} {Z : Nat → Nat → Nat → Int32} {g : Nat → Nat → Int32} (hok : pv_ok κ x L f (va_up Z 11 g)) {z : Nat → Nat → Int32} (hR : mR z (g 0)) {n : Nat} (hG : gd z n) (p : Nat) (hp : p < 10) : pv_Mi l κ yX5_usesBy wsX5_usesBy rmX5_usesBy L f [.ref (x 11 2), .int (nI p)] 0 0 (pv_R L f (sUP z p)) := by
  refine pv_startI (cc := cX5_usesBy) (maxL := 4) (ret := (some .int)) (by decide) rfl (Nat.le_of_ble_eq_true rfl) (fun A0 P0 E0 S0 M0 a0 B0 T0 C0 hC => ?_)
  refine pg_sub (vs' := [(0, .ref (x 11 2)), (1, .int (nI p))]) [0, 1] rfl ?_
  have hn12 := hG.n12
  refine pg_iconst (pc := 0) (v := 0) hC dX5_usesBy_0 (by decide) ?_
  refine pg_istore_n (pc := 1) (vs' := [(2, .int 0), (0, .ref (x 11 2)), (1, .int (nI p))]) hC dX5_usesBy_1 rfl (by decide) rfl ?_
  refine pg_iconst (pc := 2) (v := 0) hC dX5_usesBy_2 (by decide) ?_
  refine pg_istore_n (pc := 3) (vs' := [(3, .int 0), (2, .int 0), (0, .ref (x 11 2)), (1, .int (nI p))]) hC dX5_usesBy_3 rfl (by decide) rfl ?_
  refine pg_sub (vs' := [(0, .ref (x 11 2)), (1, .int (nI p)), (2, .int 0), (3, .int 0)]) [2, 3, 1, 0] rfl ?_
  refine pg_loop (pc := 4) (σ := Nat) (I := fun q => match q with | k => k ≤ n) (μ := fun q => match q with | k => n - k) (VS := fun q => match q with | k => [(0, .ref (x 11 2)), (1, .int (nI p)), (2, .int (bx_sum (fun e => sU z p e) k)), (3, .int (nI k))]) (FF := fun q => match q with | k => f) ?_ (0) (Nat.zero_le _)
  intro q hI ih1
  obtain ⟨k, rfl⟩ : ∃ z, z = q := ⟨_, rfl⟩
  dsimp only at hI ih1 ⊢
  have hI2 := hI
  obtain hk := hI
  refine pg_iload_n (pc := 4) hC dX5_usesBy_4 3 rfl rfl ?_
  refine pg_aload_n (pc := 5) hC dX5_usesBy_5 0 rfl rfl ?_
  refine pgM_geta (pc := 6) hC dX5_usesBy_6 0 (List.mem_of_getElem? (i := 1) rfl) miX5_usesBy_X5 hok (by decide) ?_
  refine pg_iconst (pc := 9) (v := 5) hC dX5_usesBy_9 (by decide) ?_
  refine pgM_iald (pc := 10) (v := nI n) hC dX5_usesBy_10 0 (5) hok (by decide) (by decide) (by decide) rfl (show 5 < 234 by omega) ((hR 1 0 rfl).trans hG.n) ?_
  refine pg_icmp_geN (pc := 11) hC 29 dX5_usesBy_11 (by decide) (k) (n) rfl rfl (by omega) (by omega) (fun c2 => ?_) (fun c2 => ?_)
  · skip
    refine pg_iload_n (pc := 29) hC dX5_usesBy_29 2 rfl rfl ?_
    exact pg_iret (pc := 30) hC dX5_usesBy_30 rfl ⟨(by rw [show k = n by omega]; exact sUP_n hG hp), rfl⟩
  · skip
    refine pg_iload_n (pc := 14) hC dX5_usesBy_14 2 rfl rfl ?_
    refine pg_aload_n (pc := 15) hC dX5_usesBy_15 0 rfl rfl ?_
    refine pg_iload_n (pc := 16) hC dX5_usesBy_16 1 rfl rfl ?_
    refine pg_iload_n (pc := 17) hC dX5_usesBy_17 3 rfl rfl ?_
    refine pg_callVRi (pc := 18) (As := [.int (nI p), .int (nI k)]) (rest := [.int (bx_sum (fun e => sU z p e) k)]) hC dX5_usesBy_18 (cX5_uses_c l hok hR (p) (k) (by omega) (by omega)) (cwV 2 hC.2.2.2.2.1 gX5_usesBy_X5_uses rfl rfl rfl (by decide +kernel) ⟨Nat.le_of_ble_eq_true rfl, Nat.le_of_ble_eq_true rfl⟩) (ok_mem hok (by decide)) (ok_Mo hok) rfl rfl rfl rfl (Nat.le_of_ble_eq_true rfl) (Nat.zero_le _) (Nat.zero_le _) ?_
    refine pg_iadd (pc := 21) (v := (bx_sum (fun e => sU z p e) k) + (sU z (p) (k))) hC dX5_usesBy_21 rfl ?_
    refine pg_istore_n (pc := 22) (vs' := [(2, .int ((bx_sum (fun e => sU z p e) k) + (sU z (p) (k)))), (0, .ref (x 11 2)), (1, .int (nI p)), (3, .int (nI k))]) hC dX5_usesBy_22 rfl (by decide) rfl ?_
    refine pg_iinc (pc := 23) (v := nI (k + 1)) (vs' := [(3, .int (nI (k + 1))), (2, .int ((bx_sum (fun e => sU z p e) k) + (sU z (p) (k)))), (0, .ref (x 11 2)), (1, .int (nI p))]) hC dX5_usesBy_23 3 rfl (nI_add (k) 1) (by decide) rfl ?_
    refine pg_goto (pc := 26) hC 4 dX5_usesBy_26 (by decide) ?_
    refine pg_sub (vs' := [(0, .ref (x 11 2)), (1, .int (nI p)), (2, .int ((bx_sum (fun e => sU z p e) k) + (sU z (p) (k)))), (3, .int (nI (k + 1)))]) [2, 3, 1, 0] rfl ?_
    exact ih1 (k + 1) (by omega) (by omega)
abbrev rmX5_pupil : Room := { frames := 2, cells := 0, slots := 0, locals := 45 }
set_option maxHeartbeats 2000000 in
set_option maxRecDepth 20000 in
theorem cX5_pupil_c (l : Launch) {κ : pv_Kt} {L : List Nat} {f : Nat → va_E} {x : Nat → Nat → Nat} {Z : Nat → Nat → Nat → Int32} {g : Nat → Nat → Int32} (hok : pv_ok κ x L f (va_up Z 11 g)) {z : Nat → Nat → Int32} (hR : mR z (g 0)) {n : Nat} (hG : gd z n) (pp wh : Int32) : pv_Mi l κ yX5_pupil wsX5_pupil rmX5_pupil L f [.ref (x 11 2), .int pp, .int wh] 0 0 (pv_R L f (tPupil z pp wh)) := by
  refine pv_startI (cc := cX5_pupil) (maxL := 3) (ret := (some .int)) (by decide) rfl (Nat.le_of_ble_eq_true rfl) (fun A0 P0 E0 S0 M0 a0 B0 T0 C0 hC => ?_)
  refine pg_sub (vs' := [(0, .ref (x 11 2)), (1, .int pp), (2, .int wh)]) [0, 1, 2] rfl ?_
  have hn12 := hG.n12
  refine pg_iload_n (pc := 0) hC dX5_pupil_0 1 rfl rfl ?_
  refine pg_callSRi (pc := 1) (As := [.int pp]) (rest := []) hC dX5_pupil_1 (cX5_isPupil_c l pp) (va_cwS 1 hC.2.2.2.2.1 gX5_pupil_X5_isPupil rfl rfl rfl (by decide +kernel) ⟨Nat.le_of_ble_eq_true rfl, Nat.le_of_ble_eq_true rfl⟩) rfl rfl (Nat.le_of_ble_eq_true rfl) (Nat.zero_le _) (Nat.zero_le _) ?_
  refine pg_if_ne (pc := 4) hC 9 dX5_pupil_4 (by decide)  (fun c1 => ?_) (fun c1 => ?_)
  · skip
    obtain ⟨p, hp, rfl⟩ := bW_nat (m := 9) rfl (by decide) c1
    have clp : cl (nI p) = p := cl_nI (by omega)
    refine pg_iload_n (pc := 9) hC dX5_pupil_9 2 rfl rfl ?_
    rcases tab_cases wh 0 7 (by omega) with ⟨j, hjl, hj, hxj⟩ | c2
    · skip
      rcases (show j = 0 ∨ j = 1 ∨ j = 2 ∨ j = 3 ∨ j = 4 ∨ j = 5 ∨ j = 6 ∨ j = 7 by omega) with rfl | rfl | rfl | rfl | rfl | rfl | rfl | rfl
      · skip
        have c3 : wh = 0 := hxj
        refine pg_tabIn (pc := 10) hC 56 dX5_pupil_10 (by rw [c3]; decide) (by rw [c3]; decide) (by rw [c3]; rfl) (by decide) ?_
        subst c3
        refine pg_aload_n (pc := 56) hC dX5_pupil_56 0 rfl rfl ?_
        refine pg_iload_n (pc := 57) hC dX5_pupil_57 1 rfl rfl ?_
        refine pg_iload_n (pc := 58) hC dX5_pupil_58 2 rfl rfl ?_
        refine pg_callVRi (pc := 59) (As := [.int (nI p), .int 0]) (rest := []) hC dX5_pupil_59 (cX5_of_c l hok (p) (0) (by omega) (by omega)) (cwV 2 hC.2.2.2.2.1 gX5_pupil_X5_of rfl rfl rfl (by decide +kernel) ⟨Nat.le_of_ble_eq_true rfl, Nat.le_of_ble_eq_true rfl⟩) (ok_mem hok (by decide)) (ok_Mo hok) rfl rfl rfl rfl (Nat.le_of_ble_eq_true rfl) (Nat.zero_le _) (Nat.zero_le _) ?_
        refine pg_top (x' := z 6 p) (hR 6 p (show p < 10 by omega)) ?_
        exact pg_iret (pc := 62) hC dX5_pupil_62 rfl ⟨(by first | rfl | (simp [tPupil, c1, clp]; done) | (simp_all [tPupil]; done)), rfl⟩
      · skip
        have c4 : wh = 1 := hxj
        refine pg_tabIn (pc := 10) hC 56 dX5_pupil_10 (by rw [c4]; decide) (by rw [c4]; decide) (by rw [c4]; rfl) (by decide) ?_
        subst c4
        refine pg_aload_n (pc := 56) hC dX5_pupil_56 0 rfl rfl ?_
        refine pg_iload_n (pc := 57) hC dX5_pupil_57 1 rfl rfl ?_
        refine pg_iload_n (pc := 58) hC dX5_pupil_58 2 rfl rfl ?_
        refine pg_callVRi (pc := 59) (As := [.int (nI p), .int 1]) (rest := []) hC dX5_pupil_59 (cX5_of_c l hok (p) (1) (by omega) (by omega)) (cwV 2 hC.2.2.2.2.1 gX5_pupil_X5_of rfl rfl rfl (by decide +kernel) ⟨Nat.le_of_ble_eq_true rfl, Nat.le_of_ble_eq_true rfl⟩) (ok_mem hok (by decide)) (ok_Mo hok) rfl rfl rfl rfl (Nat.le_of_ble_eq_true rfl) (Nat.zero_le _) (Nat.zero_le _) ?_
        refine pg_top (x' := z 7 p) (hR 7 p (show p < 10 by omega)) ?_
        exact pg_iret (pc := 62) hC dX5_pupil_62 rfl ⟨(by first | rfl | (simp [tPupil, c1, clp]; done) | (simp_all [tPupil]; done)), rfl⟩
      · skip
        have c5 : wh = 2 := hxj
        refine pg_tabIn (pc := 10) hC 56 dX5_pupil_10 (by rw [c5]; decide) (by rw [c5]; decide) (by rw [c5]; rfl) (by decide) ?_
        subst c5
        refine pg_aload_n (pc := 56) hC dX5_pupil_56 0 rfl rfl ?_
        refine pg_iload_n (pc := 57) hC dX5_pupil_57 1 rfl rfl ?_
        refine pg_iload_n (pc := 58) hC dX5_pupil_58 2 rfl rfl ?_
        refine pg_callVRi (pc := 59) (As := [.int (nI p), .int 2]) (rest := []) hC dX5_pupil_59 (cX5_of_c l hok (p) (2) (by omega) (by omega)) (cwV 2 hC.2.2.2.2.1 gX5_pupil_X5_of rfl rfl rfl (by decide +kernel) ⟨Nat.le_of_ble_eq_true rfl, Nat.le_of_ble_eq_true rfl⟩) (ok_mem hok (by decide)) (ok_Mo hok) rfl rfl rfl rfl (Nat.le_of_ble_eq_true rfl) (Nat.zero_le _) (Nat.zero_le _) ?_
        refine pg_top (x' := z 9 p) (hR 9 p (show p < 10 by omega)) ?_
        exact pg_iret (pc := 62) hC dX5_pupil_62 rfl ⟨(by first | rfl | (simp [tPupil, c1, clp]; done) | (simp_all [tPupil]; done)), rfl⟩
      · skip
        have c6 : wh = 3 := hxj
        refine pg_tabIn (pc := 10) hC 56 dX5_pupil_10 (by rw [c6]; decide) (by rw [c6]; decide) (by rw [c6]; rfl) (by decide) ?_
        subst c6
        refine pg_aload_n (pc := 56) hC dX5_pupil_56 0 rfl rfl ?_
        refine pg_iload_n (pc := 57) hC dX5_pupil_57 1 rfl rfl ?_
        refine pg_iload_n (pc := 58) hC dX5_pupil_58 2 rfl rfl ?_
        refine pg_callVRi (pc := 59) (As := [.int (nI p), .int 3]) (rest := []) hC dX5_pupil_59 (cX5_of_c l hok (p) (3) (by omega) (by omega)) (cwV 2 hC.2.2.2.2.1 gX5_pupil_X5_of rfl rfl rfl (by decide +kernel) ⟨Nat.le_of_ble_eq_true rfl, Nat.le_of_ble_eq_true rfl⟩) (ok_mem hok (by decide)) (ok_Mo hok) rfl rfl rfl rfl (Nat.le_of_ble_eq_true rfl) (Nat.zero_le _) (Nat.zero_le _) ?_
        refine pg_top (x' := z 10 p) (hR 10 p (show p < 10 by omega)) ?_
        exact pg_iret (pc := 62) hC dX5_pupil_62 rfl ⟨(by first | rfl | (simp [tPupil, c1, clp]; done) | (simp_all [tPupil]; done)), rfl⟩
      · skip
        have c7 : wh = 4 := hxj
        refine pg_tabIn (pc := 10) hC 56 dX5_pupil_10 (by rw [c7]; decide) (by rw [c7]; decide) (by rw [c7]; rfl) (by decide) ?_
        subst c7
        refine pg_aload_n (pc := 56) hC dX5_pupil_56 0 rfl rfl ?_
        refine pg_iload_n (pc := 57) hC dX5_pupil_57 1 rfl rfl ?_
        refine pg_iload_n (pc := 58) hC dX5_pupil_58 2 rfl rfl ?_
        refine pg_callVRi (pc := 59) (As := [.int (nI p), .int 4]) (rest := []) hC dX5_pupil_59 (cX5_of_c l hok (p) (4) (by omega) (by omega)) (cwV 2 hC.2.2.2.2.1 gX5_pupil_X5_of rfl rfl rfl (by decide +kernel) ⟨Nat.le_of_ble_eq_true rfl, Nat.le_of_ble_eq_true rfl⟩) (ok_mem hok (by decide)) (ok_Mo hok) rfl rfl rfl rfl (Nat.le_of_ble_eq_true rfl) (Nat.zero_le _) (Nat.zero_le _) ?_
        refine pg_top (x' := z 11 p) (hR 11 p (show p < 10 by omega)) ?_
        exact pg_iret (pc := 62) hC dX5_pupil_62 rfl ⟨(by first | rfl | (simp [tPupil, c1, clp]; done) | (simp_all [tPupil]; done)), rfl⟩
      · skip
        have c8 : wh = 5 := hxj
        refine pg_tabIn (pc := 10) hC 63 dX5_pupil_10 (by rw [c8]; decide) (by rw [c8]; decide) (by rw [c8]; rfl) (by decide) ?_
        subst c8
        refine pg_aload_n (pc := 63) hC dX5_pupil_63 0 rfl rfl ?_
        refine pg_iload_n (pc := 64) hC dX5_pupil_64 1 rfl rfl ?_
        refine pg_callVRi (pc := 65) (As := [.int (nI p)]) (rest := []) hC dX5_pupil_65 (cX5_usesBy_c l hok hR hG (p) (by omega)) (cwV 1 hC.2.2.2.2.1 gX5_pupil_X5_usesBy rfl rfl rfl (by decide +kernel) ⟨Nat.le_of_ble_eq_true rfl, Nat.le_of_ble_eq_true rfl⟩) (ok_mem hok (by decide)) (ok_Mo hok) rfl rfl rfl rfl (Nat.le_of_ble_eq_true rfl) (Nat.zero_le _) (Nat.zero_le _) ?_
        exact pg_iret (pc := 68) hC dX5_pupil_68 rfl ⟨(by first | rfl | (simp [tPupil, c1, clp]; done) | (simp_all [tPupil]; done)), rfl⟩
      · skip
        have c9 : wh = 6 := hxj
        refine pg_tabIn (pc := 10) hC 69 dX5_pupil_10 (by rw [c9]; decide) (by rw [c9]; decide) (by rw [c9]; rfl) (by decide) ?_
        subst c9
        refine pg_aload_n (pc := 69) hC dX5_pupil_69 0 rfl rfl ?_
        refine pg_iload_n (pc := 70) hC dX5_pupil_70 1 rfl rfl ?_
        refine pg_callVRi (pc := 71) (As := [.int (nI p)]) (rest := []) hC dX5_pupil_71 (cX5_grudge_c l hok hR (p) (by omega)) (cwV 1 hC.2.2.2.2.1 gX5_pupil_X5_grudge rfl rfl rfl (by decide +kernel) ⟨Nat.le_of_ble_eq_true rfl, Nat.le_of_ble_eq_true rfl⟩) (ok_mem hok (by decide)) (ok_Mo hok) rfl rfl rfl rfl (Nat.le_of_ble_eq_true rfl) (Nat.zero_le _) (Nat.zero_le _) ?_
        exact pg_iret (pc := 74) hC dX5_pupil_74 rfl ⟨(by first | rfl | (simp [tPupil, c1, clp]; done) | (simp_all [tPupil]; done)), rfl⟩
      · skip
        have c10 : wh = 7 := hxj
        refine pg_tabIn (pc := 10) hC 75 dX5_pupil_10 (by rw [c10]; decide) (by rw [c10]; decide) (by rw [c10]; rfl) (by decide) ?_
        subst c10
        refine pg_aload_n (pc := 75) hC dX5_pupil_75 0 rfl rfl ?_
        refine pg_iload_n (pc := 76) hC dX5_pupil_76 1 rfl rfl ?_
        refine pg_iconst (pc := 77) (v := 5) hC dX5_pupil_77 (by decide) ?_
        refine pg_callVRi (pc := 78) (As := [.int (nI p), .int 5]) (rest := []) hC dX5_pupil_78 (cX5_of_c l hok (p) (5) (by omega) (by omega)) (cwV 2 hC.2.2.2.2.1 gX5_pupil_X5_of rfl rfl rfl (by decide +kernel) ⟨Nat.le_of_ble_eq_true rfl, Nat.le_of_ble_eq_true rfl⟩) (ok_mem hok (by decide)) (ok_Mo hok) rfl rfl rfl rfl (Nat.le_of_ble_eq_true rfl) (Nat.zero_le _) (Nat.zero_le _) ?_
        refine pg_top (x' := z 8 p) (hR 8 p (show p < 10 by omega)) ?_
        exact pg_iret (pc := 81) hC dX5_pupil_81 rfl ⟨(by first | rfl | (simp [tPupil, c1, clp]; done) | (simp_all [tPupil]; done)), rfl⟩
    · skip
      refine pg_tabOut (pc := 10) hC 82 dX5_pupil_10 c2 (by decide) ?_
      have n11 : ¬ wh = 0 := fun q => by rw [q] at c2; revert c2; decide
      have n12 : ¬ wh = 1 := fun q => by rw [q] at c2; revert c2; decide
      have n13 : ¬ wh = 2 := fun q => by rw [q] at c2; revert c2; decide
      have n14 : ¬ wh = 3 := fun q => by rw [q] at c2; revert c2; decide
      have n15 : ¬ wh = 4 := fun q => by rw [q] at c2; revert c2; decide
      have n16 : ¬ wh = 5 := fun q => by rw [q] at c2; revert c2; decide
      have n17 : ¬ wh = 6 := fun q => by rw [q] at c2; revert c2; decide
      have n18 : ¬ wh = 7 := fun q => by rw [q] at c2; revert c2; decide
      refine pg_bipush (pc := 82) (v := (-2)) hC dX5_pupil_82 (by decide) ?_
      exact pg_iret (pc := 84) hC dX5_pupil_84 rfl ⟨(by first | rfl | (simp [tPupil, c1, n11, n12, n13, n14, n15, n16, n17, n18, clp]; done) | (simp_all [tPupil]; done)), rfl⟩
  · skip
    refine pg_iconst (pc := 7) (v := (-1)) hC dX5_pupil_7 (by decide) ?_
    exact pg_iret (pc := 8) hC dX5_pupil_8 rfl ⟨(by first | rfl | (simp [tPupil, c1]; done) | (simp_all [tPupil]; done)), rfl⟩
abbrev rmX5_novelty : Room := { frames := 3, cells := 0, slots := 0, locals := 68 }
set_option maxHeartbeats 2000000 in
set_option maxRecDepth 20000 in
theorem cX5_novelty_c (l : Launch) {κ : pv_Kt} {L : List Nat} {f : Nat → va_E} {x : Nat → Nat → Nat} {Z : Nat → Nat → Nat → Int32} {g : Nat → Nat → Int32} (hok : pv_ok κ x L f (va_up Z 11 g)) {z : Nat → Nat → Int32} (hR : mR z (g 0)) {n : Nat} (hG : gd z n) (pp ee : Int32) : pv_Mi l κ yX5_novelty wsX5_novelty rmX5_novelty L f [.ref (x 11 2), .int pp, .int ee] 0 0 (pv_R L f (tNovelty z pp ee)) := by
  refine pv_startI (cc := cX5_novelty) (maxL := 3) (ret := (some .int)) (by decide) rfl (Nat.le_of_ble_eq_true rfl) (fun A0 P0 E0 S0 M0 a0 B0 T0 C0 hC => ?_)
  refine pg_sub (vs' := [(0, .ref (x 11 2)), (1, .int pp), (2, .int ee)]) [0, 1, 2] rfl ?_
  have hn12 := hG.n12
  refine pg_iload_n (pc := 0) hC dX5_novelty_0 1 rfl rfl ?_
  refine pg_callSRi (pc := 1) (As := [.int pp]) (rest := []) hC dX5_novelty_1 (cX5_isPupil_c l pp) (va_cwS 1 hC.2.2.2.2.1 gX5_novelty_X5_isPupil rfl rfl rfl (by decide +kernel) ⟨Nat.le_of_ble_eq_true rfl, Nat.le_of_ble_eq_true rfl⟩) rfl rfl (Nat.le_of_ble_eq_true rfl) (Nat.zero_le _) (Nat.zero_le _) ?_
  refine pg_if_eq (pc := 4) hC 24 dX5_novelty_4 (by decide)  (fun c1 => ?_) (fun c1 => ?_)
  · skip
    refine pg_iconst (pc := 24) (v := (-1)) hC dX5_novelty_24 (by decide) ?_
    exact pg_iret (pc := 25) hC dX5_novelty_25 rfl ⟨(by first | rfl | (simp [tNovelty, c1]; done) | (simp_all [tNovelty]; done)), rfl⟩
  · skip
    obtain ⟨p, hp, rfl⟩ := bW_nat (m := 9) rfl (by decide) c1
    have clp : cl (nI p) = p := cl_nI (by omega)
    refine pg_aload_n (pc := 7) hC dX5_novelty_7 0 rfl rfl ?_
    refine pg_iload_n (pc := 8) hC dX5_novelty_8 2 rfl rfl ?_
    refine pg_callVRi (pc := 9) (As := [.int ee]) (rest := []) hC dX5_novelty_9 (cX5_isExcuse_c l hok hR hG ee) (cwV 1 hC.2.2.2.2.1 gX5_novelty_X5_isExcuse rfl rfl rfl (by decide +kernel) ⟨Nat.le_of_ble_eq_true rfl, Nat.le_of_ble_eq_true rfl⟩) (ok_mem hok (by decide)) (ok_Mo hok) rfl rfl rfl rfl (Nat.le_of_ble_eq_true rfl) (Nat.zero_le _) (Nat.zero_le _) ?_
    refine pg_if_eq (pc := 12) hC 24 dX5_novelty_12 (by decide)  (fun c2 => ?_) (fun c2 => ?_)
    · skip
      refine pg_iconst (pc := 24) (v := (-1)) hC dX5_novelty_24 (by decide) ?_
      exact pg_iret (pc := 25) hC dX5_novelty_25 rfl ⟨(by first | rfl | (simp [tNovelty, c1, c2, clp]; done) | (simp_all [tNovelty]; done)), rfl⟩
    · skip
      obtain ⟨e, he, rfl⟩ := bH_nat hG.n (by omega) c2
      have cle : cl (nI e) = e := cl_nI (by omega)
      refine pg_aload_n (pc := 15) hC dX5_novelty_15 0 rfl rfl ?_
      refine pg_iload_n (pc := 16) hC dX5_novelty_16 1 rfl rfl ?_
      refine pg_iload_n (pc := 17) hC dX5_novelty_17 2 rfl rfl ?_
      refine pg_callVRi (pc := 18) (As := [.int (nI p), .int (nI e)]) (rest := []) hC dX5_novelty_18 (cX5_noveltyOf_c l hok hR (p) (e) (by omega) (by omega)) (cwV 2 hC.2.2.2.2.1 gX5_novelty_X5_noveltyOf rfl rfl rfl (by decide +kernel) ⟨Nat.le_of_ble_eq_true rfl, Nat.le_of_ble_eq_true rfl⟩) (ok_mem hok (by decide)) (ok_Mo hok) rfl rfl rfl rfl (Nat.le_of_ble_eq_true rfl) (Nat.zero_le _) (Nat.zero_le _) ?_
      refine pg_goto (pc := 21) hC 25 dX5_novelty_21 (by decide) ?_
      exact pg_iret (pc := 25) hC dX5_novelty_25 rfl ⟨(by first | rfl | (simp [tNovelty, c1, c2, clp, cle]; done) | (simp_all [tNovelty]; done)), rfl⟩
abbrev rmX5_why : Room := { frames := 5, cells := 0, slots := 0, locals := 116 }
set_option maxHeartbeats 2000000 in
set_option maxRecDepth 20000 in
theorem cX5_why_c (l : Launch) {κ : pv_Kt} {L : List Nat} {f : Nat → va_E} {x : Nat → Nat → Nat} {Z : Nat → Nat → Nat → Int32} {g : Nat → Nat → Int32} (hok : pv_ok κ x L f (va_up Z 11 g)) {z : Nat → Nat → Int32} (hR : mR z (g 0)) {n : Nat} (hG : gd z n) (pp ee wt mn : Int32) : pv_Mi l κ yX5_why wsX5_why rmX5_why L f [.ref (x 11 2), .int pp, .int ee, .int wt, .int mn] 0 0 (pv_R L f (tWhy z pp ee wt mn)) := by
  refine pv_startI (cc := cX5_why) (maxL := 6) (ret := (some .int)) (by decide) rfl (Nat.le_of_ble_eq_true rfl) (fun A0 P0 E0 S0 M0 a0 B0 T0 C0 hC => ?_)
  refine pg_sub (vs' := [(0, .ref (x 11 2)), (1, .int pp), (2, .int ee), (3, .int wt), (4, .int mn)]) [0, 1, 2, 3, 4] rfl ?_
  have hn12 := hG.n12
  refine pg_aload_n (pc := 0) hC dX5_why_0 0 rfl rfl ?_
  refine pg_iload_n (pc := 1) hC dX5_why_1 1 rfl rfl ?_
  refine pg_iload_n (pc := 2) hC dX5_why_2 2 rfl rfl ?_
  refine pg_iload_n (pc := 3) hC dX5_why_3 3 rfl rfl ?_
  refine pg_iload (pc := 4) hC dX5_why_4 4 rfl ?_
  refine pg_callVRi (pc := 6) (As := [.int pp, .int ee, .int wt, .int mn]) (rest := []) hC dX5_why_6 (cX5_whyNotOffer_c l hok hR hG pp ee wt mn) (cwV 4 hC.2.2.2.2.1 gX5_why_X5_whyNotOffer rfl rfl rfl (by decide +kernel) ⟨Nat.le_of_ble_eq_true rfl, Nat.le_of_ble_eq_true rfl⟩) (ok_mem hok (by decide)) (ok_Mo hok) rfl rfl rfl rfl (Nat.le_of_ble_eq_true rfl) (Nat.zero_le _) (Nat.zero_le _) ?_
  refine pg_istore (pc := 9) (vs' := [(5, .int (tErr z pp ee wt mn)), (0, .ref (x 11 2)), (1, .int pp), (2, .int ee), (3, .int wt), (4, .int mn)]) hC dX5_why_9 (by decide) rfl ?_
  refine pg_iload (pc := 11) hC dX5_why_11 0 rfl ?_
  refine pg_if_ge (pc := 13) hC 21 dX5_why_13 (by decide)  (fun c1 => ?_) (fun c1 => ?_)
  · skip
    have q0 := tErr_ge c1
    obtain ⟨p, e, hp, he, rfl, rfl, hw⟩ := tErr_0 hG.n hn12 q0
    have clp : cl (nI p) = p := cl_nI (by omega)
    have cle : cl (nI e) = e := cl_nI (by omega)
    refine pg_aload_n (pc := 21) hC dX5_why_21 1 rfl rfl ?_
    refine pg_iload_n (pc := 22) hC dX5_why_22 2 rfl rfl ?_
    refine pg_iload_n (pc := 23) hC dX5_why_23 3 rfl rfl ?_
    refine pg_iload_n (pc := 24) hC dX5_why_24 4 rfl rfl ?_
    refine pg_iload (pc := 25) hC dX5_why_25 5 rfl ?_
    refine pg_callVRi (pc := 27) (As := [.int (nI p), .int (nI e), .int wt, .int mn]) (rest := []) hC dX5_why_27 (cX5_reason_c l hok hR hG (p) (e) (by omega) (by omega) wt hw mn) (cwV 4 hC.2.2.2.2.1 gX5_why_X5_reason rfl rfl rfl (by decide +kernel) ⟨Nat.le_of_ble_eq_true rfl, Nat.le_of_ble_eq_true rfl⟩) (ok_mem hok (by decide)) (ok_Mo hok) rfl rfl rfl rfl (Nat.le_of_ble_eq_true rfl) (Nat.zero_le _) (Nat.zero_le _) ?_
    exact pg_iret (pc := 30) hC dX5_why_30 rfl ⟨(by first | rfl | (simp [tWhy, q0, clp, cle]; done) | (simp_all [tWhy]; done)), rfl⟩
  · skip
    have q0 := tErr_lt c1
    refine pg_iload (pc := 16) hC dX5_why_16 0 rfl ?_
    refine pg_goto (pc := 18) hC 30 dX5_why_18 (by decide) ?_
    exact pg_iret (pc := 30) hC dX5_why_30 rfl ⟨(by first | rfl | (simp [tWhy, q0]; done) | (simp_all [tWhy]; done)), rfl⟩
abbrev rmX5_weight : Room := { frames := 4, cells := 0, slots := 0, locals := 92 }
set_option maxHeartbeats 2000000 in
set_option maxRecDepth 20000 in
theorem cX5_weight_c (l : Launch) {κ : pv_Kt} {L : List Nat} {f : Nat → va_E} {x : Nat → Nat → Nat} {Z : Nat → Nat → Nat → Int32} {g : Nat → Nat → Int32} (hok : pv_ok κ x L f (va_up Z 11 g)) {z : Nat → Nat → Int32} (hR : mR z (g 0)) {n : Nat} (hG : gd z n) (pp ee wt mn : Int32) : pv_Mi l κ yX5_weight wsX5_weight rmX5_weight L f [.ref (x 11 2), .int pp, .int ee, .int wt, .int mn] 0 0 (pv_R L f (tWeight z pp ee wt mn)) := by
  refine pv_startI (cc := cX5_weight) (maxL := 6) (ret := (some .int)) (by decide) rfl (Nat.le_of_ble_eq_true rfl) (fun A0 P0 E0 S0 M0 a0 B0 T0 C0 hC => ?_)
  refine pg_sub (vs' := [(0, .ref (x 11 2)), (1, .int pp), (2, .int ee), (3, .int wt), (4, .int mn)]) [0, 1, 2, 3, 4] rfl ?_
  have hn12 := hG.n12
  refine pg_aload_n (pc := 0) hC dX5_weight_0 0 rfl rfl ?_
  refine pg_iload_n (pc := 1) hC dX5_weight_1 1 rfl rfl ?_
  refine pg_iload_n (pc := 2) hC dX5_weight_2 2 rfl rfl ?_
  refine pg_iload_n (pc := 3) hC dX5_weight_3 3 rfl rfl ?_
  refine pg_iload (pc := 4) hC dX5_weight_4 4 rfl ?_
  refine pg_callVRi (pc := 6) (As := [.int pp, .int ee, .int wt, .int mn]) (rest := []) hC dX5_weight_6 (cX5_whyNotOffer_c l hok hR hG pp ee wt mn) (cwV 4 hC.2.2.2.2.1 gX5_weight_X5_whyNotOffer rfl rfl rfl (by decide +kernel) ⟨Nat.le_of_ble_eq_true rfl, Nat.le_of_ble_eq_true rfl⟩) (ok_mem hok (by decide)) (ok_Mo hok) rfl rfl rfl rfl (Nat.le_of_ble_eq_true rfl) (Nat.zero_le _) (Nat.zero_le _) ?_
  refine pg_istore (pc := 9) (vs' := [(5, .int (tErr z pp ee wt mn)), (0, .ref (x 11 2)), (1, .int pp), (2, .int ee), (3, .int wt), (4, .int mn)]) hC dX5_weight_9 (by decide) rfl ?_
  refine pg_iload (pc := 11) hC dX5_weight_11 0 rfl ?_
  refine pg_if_ge (pc := 13) hC 21 dX5_weight_13 (by decide)  (fun c1 => ?_) (fun c1 => ?_)
  · skip
    have q0 := tErr_ge c1
    obtain ⟨p, e, hp, he, rfl, rfl, hw⟩ := tErr_0 hG.n hn12 q0
    have clp : cl (nI p) = p := cl_nI (by omega)
    have cle : cl (nI e) = e := cl_nI (by omega)
    refine pg_sipush (pc := 21) (v := 1000) hC dX5_weight_21 (by decide) ?_
    refine pg_aload_n (pc := 24) hC dX5_weight_24 1 rfl rfl ?_
    refine pg_iload_n (pc := 25) hC dX5_weight_25 2 rfl rfl ?_
    refine pg_iload_n (pc := 26) hC dX5_weight_26 3 rfl rfl ?_
    refine pg_iload_n (pc := 27) hC dX5_weight_27 4 rfl rfl ?_
    refine pg_iload (pc := 28) hC dX5_weight_28 5 rfl ?_
    refine pg_callVRi (pc := 30) (As := [.int (nI p), .int (nI e), .int wt, .int mn]) (rest := [.int 1000]) hC dX5_weight_30 (cX5_weightOf_c l hok hR hG (p) (e) (by omega) (by omega) wt hw mn) (cwV 4 hC.2.2.2.2.1 gX5_weight_X5_weightOf rfl rfl rfl (by decide +kernel) ⟨Nat.le_of_ble_eq_true rfl, Nat.le_of_ble_eq_true rfl⟩) (ok_mem hok (by decide)) (ok_Mo hok) rfl rfl rfl rfl (Nat.le_of_ble_eq_true rfl) (Nat.zero_le _) (Nat.zero_le _) ?_
    refine pg_iadd (pc := 33) (v := 1000 + (sWt z (p) (e) wt mn)) hC dX5_weight_33 rfl ?_
    exact pg_iret (pc := 34) hC dX5_weight_34 rfl ⟨(by first | rfl | (simp [tWeight, q0, clp, cle]; done) | (simp_all [tWeight]; done)), rfl⟩
  · skip
    have q0 := tErr_lt c1
    refine pg_iload (pc := 16) hC dX5_weight_16 0 rfl ?_
    refine pg_goto (pc := 18) hC 34 dX5_weight_18 (by decide) ?_
    exact pg_iret (pc := 34) hC dX5_weight_34 rfl ⟨(by first | rfl | (simp [tWeight, q0]; done) | (simp_all [tWeight]; done)), rfl⟩
abbrev rmX5_sumOfPupils : Room := { frames := 1, cells := 0, slots := 0, locals := 22 }
set_option maxHeartbeats 2000000 in
set_option maxRecDepth 20000 in
theorem cX5_sumOfPupils_c (l : Launch) {κ : pv_Kt} {L : List Nat} {f : Nat → va_E} {x : Nat → Nat → Nat} {Z : Nat → Nat → Nat → Int32} {g : Nat → Nat → Int32} (hok : pv_ok κ x L f (va_up Z 11 g)) (k : Nat) (hk : k < 6) : pv_Mi l κ yX5_sumOfPupils wsX5_sumOfPupils rmX5_sumOfPupils L f [.ref (x 11 2), .int (nI k)] 0 0 (pv_R L f (bx_sum (fun p => g 0 (54 + 6 * p + k)) 10)) := by
  refine pv_startI (cc := cX5_sumOfPupils) (maxL := 4) (ret := (some .int)) (by decide) rfl (Nat.le_of_ble_eq_true rfl) (fun A0 P0 E0 S0 M0 a0 B0 T0 C0 hC => ?_)
  refine pg_sub (vs' := [(0, .ref (x 11 2)), (1, .int (nI k))]) [0, 1] rfl ?_
  refine pg_iconst (pc := 0) (v := 0) hC dX5_sumOfPupils_0 (by decide) ?_
  refine pg_istore_n (pc := 1) (vs' := [(2, .int 0), (0, .ref (x 11 2)), (1, .int (nI k))]) hC dX5_sumOfPupils_1 rfl (by decide) rfl ?_
  refine pg_iconst (pc := 2) (v := 0) hC dX5_sumOfPupils_2 (by decide) ?_
  refine pg_istore_n (pc := 3) (vs' := [(3, .int 0), (2, .int 0), (0, .ref (x 11 2)), (1, .int (nI k))]) hC dX5_sumOfPupils_3 rfl (by decide) rfl ?_
  refine pg_sub (vs' := [(0, .ref (x 11 2)), (1, .int (nI k)), (2, .int 0), (3, .int 0)]) [2, 3, 1, 0] rfl ?_
  refine pg_loop (pc := 4) (σ := Nat) (I := fun q => match q with | j => j ≤ 10) (μ := fun q => match q with | j => 10 - j) (VS := fun q => match q with | j => [(0, .ref (x 11 2)), (1, .int (nI k)), (2, .int (bx_sum (fun p => g 0 (54 + 6 * p + k)) j)), (3, .int (nI j))]) (FF := fun q => match q with | j => f) ?_ (0) (by decide)
  intro q hI ih1
  obtain ⟨j, rfl⟩ : ∃ z, z = q := ⟨_, rfl⟩
  dsimp only at hI ih1 ⊢
  have hI2 := hI
  obtain hj := hI
  refine pg_iload_n (pc := 4) hC dX5_sumOfPupils_4 3 rfl rfl ?_
  refine pg_bipush (pc := 5) (v := 10) hC dX5_sumOfPupils_5 (by decide) ?_
  refine pg_icmp_geN (pc := 7) hC 25 dX5_sumOfPupils_7 (by decide) (j) (10) rfl rfl (by omega) (by omega) (fun c2 => ?_) (fun c2 => ?_)
  · skip
    refine pg_iload_n (pc := 25) hC dX5_sumOfPupils_25 2 rfl rfl ?_
    exact pg_iret (pc := 26) hC dX5_sumOfPupils_26 rfl ⟨(by rw [show j = 10 by omega]), rfl⟩
  · skip
    refine pg_iload_n (pc := 10) hC dX5_sumOfPupils_10 2 rfl rfl ?_
    refine pg_aload_n (pc := 11) hC dX5_sumOfPupils_11 0 rfl rfl ?_
    refine pg_iload_n (pc := 12) hC dX5_sumOfPupils_12 3 rfl rfl ?_
    refine pg_iload_n (pc := 13) hC dX5_sumOfPupils_13 1 rfl rfl ?_
    refine pg_callVRi (pc := 14) (As := [.int (nI j), .int (nI k)]) (rest := [.int (bx_sum (fun p => g 0 (54 + 6 * p + k)) j)]) hC dX5_sumOfPupils_14 (cX5_of_c l hok (j) (k) (by omega) (by omega)) (cwV 2 hC.2.2.2.2.1 gX5_sumOfPupils_X5_of rfl rfl rfl (by decide +kernel) ⟨Nat.le_of_ble_eq_true rfl, Nat.le_of_ble_eq_true rfl⟩) (ok_mem hok (by decide)) (ok_Mo hok) rfl rfl rfl rfl (Nat.le_of_ble_eq_true rfl) (Nat.zero_le _) (Nat.zero_le _) ?_
    refine pg_iadd (pc := 17) (v := (bx_sum (fun p => g 0 (54 + 6 * p + k)) j) + (g 0 (54 + 6 * j + k))) hC dX5_sumOfPupils_17 rfl ?_
    refine pg_istore_n (pc := 18) (vs' := [(2, .int ((bx_sum (fun p => g 0 (54 + 6 * p + k)) j) + (g 0 (54 + 6 * j + k)))), (0, .ref (x 11 2)), (1, .int (nI k)), (3, .int (nI j))]) hC dX5_sumOfPupils_18 rfl (by decide) rfl ?_
    refine pg_iinc (pc := 19) (v := nI (j + 1)) (vs' := [(3, .int (nI (j + 1))), (2, .int ((bx_sum (fun p => g 0 (54 + 6 * p + k)) j) + (g 0 (54 + 6 * j + k)))), (0, .ref (x 11 2)), (1, .int (nI k))]) hC dX5_sumOfPupils_19 3 rfl (nI_add (j) 1) (by decide) rfl ?_
    refine pg_goto (pc := 22) hC 4 dX5_sumOfPupils_22 (by decide) ?_
    refine pg_sub (vs' := [(0, .ref (x 11 2)), (1, .int (nI k)), (2, .int ((bx_sum (fun p => g 0 (54 + 6 * p + k)) j) + (g 0 (54 + 6 * j + k)))), (3, .int (nI (j + 1)))]) [2, 3, 1, 0] rfl ?_
    exact ih1 (j + 1) (by omega) (by omega)
abbrev rmX5_grudges : Room := { frames := 0, cells := 0, slots := 0, locals := 0 }
theorem miX5_grudges_X5 : ∀ w ∈ wsX50, w ∈ wsX5_grudges := fun _ h => List.mem_cons_of_mem _ (List.mem_append_right _ h)
set_option maxHeartbeats 2000000 in
set_option maxRecDepth 20000 in
theorem cX5_grudges_c (l : Launch) {κ : pv_Kt} {L : List Nat} {f : Nat → va_E} {x : Nat → Nat → Nat} {Z : Nat → Nat → Nat → Int32} {g : Nat → Nat → Int32} (hok : pv_ok κ x L f (va_up Z 11 g)) {z : Nat → Nat → Int32} (hR : mR z (g 0))  : pv_Mi l κ yX5_grudges wsX5_grudges rmX5_grudges L f [.ref (x 11 2)] 0 0 (pv_R L f (bx_sum (z 12) 5)) := by
  refine pv_startI (cc := cX5_grudges) (maxL := 3) (ret := (some .int)) (by decide) rfl (Nat.le_of_ble_eq_true rfl) (fun A0 P0 E0 S0 M0 a0 B0 T0 C0 hC => ?_)
  refine pg_sub (vs' := [(0, .ref (x 11 2))]) [0] rfl ?_
  refine pg_iconst (pc := 0) (v := 0) hC dX5_grudges_0 (by decide) ?_
  refine pg_istore_n (pc := 1) (vs' := [(1, .int 0), (0, .ref (x 11 2))]) hC dX5_grudges_1 rfl (by decide) rfl ?_
  refine pg_iconst (pc := 2) (v := 0) hC dX5_grudges_2 (by decide) ?_
  refine pg_istore_n (pc := 3) (vs' := [(2, .int 0), (1, .int 0), (0, .ref (x 11 2))]) hC dX5_grudges_3 rfl (by decide) rfl ?_
  refine pg_sub (vs' := [(0, .ref (x 11 2)), (1, .int 0), (2, .int 0)]) [2, 1, 0] rfl ?_
  refine pg_loop (pc := 4) (σ := Nat) (I := fun q => match q with | k => k ≤ 5) (μ := fun q => match q with | k => 5 - k) (VS := fun q => match q with | k => [(0, .ref (x 11 2)), (1, .int (bx_sum (z 12) k)), (2, .int (nI k))]) (FF := fun q => match q with | k => f) ?_ (0) (Nat.zero_le _)
  intro q hI ih1
  obtain ⟨k, rfl⟩ : ∃ z, z = q := ⟨_, rfl⟩
  dsimp only at hI ih1 ⊢
  have hI2 := hI
  obtain hk := hI
  refine pg_iload_n (pc := 4) hC dX5_grudges_4 2 rfl rfl ?_
  refine pg_iconst (pc := 5) (v := 5) hC dX5_grudges_5 (by decide) ?_
  refine pg_icmp_geN (pc := 6) hC 27 dX5_grudges_6 (by decide) (k) (5) rfl rfl (by omega) (by omega) (fun c2 => ?_) (fun c2 => ?_)
  · skip
    refine pg_iload_n (pc := 27) hC dX5_grudges_27 1 rfl rfl ?_
    exact pg_iret (pc := 28) hC dX5_grudges_28 rfl ⟨(by rw [show k = 5 by omega]), rfl⟩
  · skip
    refine pg_iload_n (pc := 9) hC dX5_grudges_9 1 rfl rfl ?_
    refine pg_aload_n (pc := 10) hC dX5_grudges_10 0 rfl rfl ?_
    refine pgM_geta (pc := 11) hC dX5_grudges_11 0 (List.mem_of_getElem? (i := 1) rfl) miX5_grudges_X5 hok (by decide) ?_
    refine pg_bipush (pc := 14) (v := 13) hC dX5_grudges_14 (by decide) ?_
    refine pg_iload_n (pc := 16) hC dX5_grudges_16 2 rfl rfl ?_
    refine pg_iadd (pc := 17) (v := nI (13 + k)) hC dX5_grudges_17 (nI_add (13) (k)) ?_
    refine pgM_iald (pc := 18) (v := z 12 k) hC dX5_grudges_18 0 (13 + k) hok (by decide) (by decide) (by decide) rfl (show (13 + k) < 234 by omega) (hR 12 k (show k < 5 by omega)) ?_
    refine pg_iadd (pc := 19) (v := (bx_sum (z 12) k) + (z 12 k)) hC dX5_grudges_19 rfl ?_
    refine pg_istore_n (pc := 20) (vs' := [(1, .int ((bx_sum (z 12) k) + (z 12 k))), (0, .ref (x 11 2)), (2, .int (nI k))]) hC dX5_grudges_20 rfl (by decide) rfl ?_
    refine pg_iinc (pc := 21) (v := nI (k + 1)) (vs' := [(2, .int (nI (k + 1))), (1, .int ((bx_sum (z 12) k) + (z 12 k))), (0, .ref (x 11 2))]) hC dX5_grudges_21 2 rfl (nI_add (k) 1) (by decide) rfl ?_
    refine pg_goto (pc := 24) hC 4 dX5_grudges_24 (by decide) ?_
    refine pg_sub (vs' := [(0, .ref (x 11 2)), (1, .int ((bx_sum (z 12) k) + (z 12 k))), (2, .int (nI (k + 1)))]) [2, 1, 0] rfl ?_
    exact ih1 (k + 1) (by omega) (by omega)
abbrev rmX5_wornOut : Room := { frames := 3, cells := 0, slots := 0, locals := 68 }
theorem miX5_wornOut_X5 : ∀ w ∈ wsX50, w ∈ wsX5_wornOut := fun _ h => List.mem_cons_of_mem _ (List.mem_append_right _ h)
set_option maxHeartbeats 2000000 in
set_option maxRecDepth 20000 in
theorem cX5_wornOut_c (l : Launch) {κ : pv_Kt} {L : List Nat} {f : Nat → va_E} {x : Nat → Nat → Nat} {Z : Nat → Nat → Nat → Int32} {g : Nat → Nat → Int32} (hok : pv_ok κ x L f (va_up Z 11 g)) {z : Nat → Nat → Int32} (hR : mR z (g 0)) {n : Nat} (hG : gd z n)  : pv_Mi l κ yX5_wornOut wsX5_wornOut rmX5_wornOut L f [.ref (x 11 2)] 0 0 (pv_R L f (sWOs z n)) := by
  refine pv_startI (cc := cX5_wornOut) (maxL := 5) (ret := (some .int)) (by decide) rfl (Nat.le_of_ble_eq_true rfl) (fun A0 P0 E0 S0 M0 a0 B0 T0 C0 hC => ?_)
  refine pg_sub (vs' := [(0, .ref (x 11 2))]) [0] rfl ?_
  have hn12 := hG.n12
  refine pg_iconst (pc := 0) (v := 0) hC dX5_wornOut_0 (by decide) ?_
  refine pg_istore_n (pc := 1) (vs' := [(1, .int 0), (0, .ref (x 11 2))]) hC dX5_wornOut_1 rfl (by decide) rfl ?_
  refine pg_iconst (pc := 2) (v := 0) hC dX5_wornOut_2 (by decide) ?_
  refine pg_istore_n (pc := 3) (vs' := [(2, .int 0), (1, .int 0), (0, .ref (x 11 2))]) hC dX5_wornOut_3 rfl (by decide) rfl ?_
  refine pg_sub (vs' := [(0, .ref (x 11 2)), (1, .int 0), (2, .int 0)]) [2, 1, 0] rfl ?_
  refine pg_loop (pc := 4) (σ := Nat) (I := fun q => match q with | k => k ≤ n) (μ := fun q => match q with | k => n - k) (VS := fun q => match q with | k => [(0, .ref (x 11 2)), (1, .int (sCnt (fun e => sWO z e) k)), (2, .int (nI k))]) (FF := fun q => match q with | k => f) ?_ (0) (Nat.zero_le _)
  intro q hI ih1
  obtain ⟨k, rfl⟩ : ∃ z, z = q := ⟨_, rfl⟩
  dsimp only at hI ih1 ⊢
  have hI2 := hI
  obtain hk := hI
  refine pg_iload_n (pc := 4) hC dX5_wornOut_4 2 rfl rfl ?_
  refine pg_aload_n (pc := 5) hC dX5_wornOut_5 0 rfl rfl ?_
  refine pgM_geta (pc := 6) hC dX5_wornOut_6 0 (List.mem_of_getElem? (i := 1) rfl) miX5_wornOut_X5 hok (by decide) ?_
  refine pg_iconst (pc := 9) (v := 5) hC dX5_wornOut_9 (by decide) ?_
  refine pgM_iald (pc := 10) (v := nI n) hC dX5_wornOut_10 0 (5) hok (by decide) (by decide) (by decide) rfl (show 5 < 234 by omega) ((hR 1 0 rfl).trans hG.n) ?_
  refine pg_icmp_geN (pc := 11) hC 60 dX5_wornOut_11 (by decide) (k) (n) rfl rfl (by omega) (by omega) (fun c2 => ?_) (fun c2 => ?_)
  · skip
    refine pg_iload_n (pc := 60) hC dX5_wornOut_60 1 rfl rfl ?_
    exact pg_iret (pc := 61) hC dX5_wornOut_61 rfl ⟨(by rw [show k = n by omega]; rfl), rfl⟩
  · skip
    refine pg_iconst (pc := 14) (v := 0) hC dX5_wornOut_14 (by decide) ?_
    refine pg_istore_n (pc := 15) (vs' := [(3, .int 0), (0, .ref (x 11 2)), (1, .int (sCnt (fun e => sWO z e) k)), (2, .int (nI k))]) hC dX5_wornOut_15 rfl (by decide) rfl ?_
    refine pg_iconst (pc := 16) (v := 0) hC dX5_wornOut_16 (by decide) ?_
    refine pg_istore (pc := 17) (vs' := [(4, .int 0), (3, .int 0), (0, .ref (x 11 2)), (1, .int (sCnt (fun e => sWO z e) k)), (2, .int (nI k))]) hC dX5_wornOut_17 (by decide) rfl ?_
    refine pg_sub (vs' := [(0, .ref (x 11 2)), (1, .int (sCnt (fun e => sWO z e) k)), (2, .int (nI k)), (3, .int 0), (4, .int 0)]) [2, 3, 4, 1, 0] rfl ?_
    refine pg_loop (pc := 19) (σ := Nat) (I := fun q => match q with | j => j ≤ 10) (μ := fun q => match q with | j => 10 - j) (VS := fun q => match q with | j => [(0, .ref (x 11 2)), (1, .int (sCnt (fun e => sWO z e) k)), (2, .int (nI k)), (3, .int (bx_sum (fun p => sNov z p k) j)), (4, .int (nI j))]) (FF := fun q => match q with | j => f) ?_ (0) (by decide)
    intro q hI ih3
    obtain ⟨j, rfl⟩ : ∃ z, z = q := ⟨_, rfl⟩
    dsimp only at hI ih3 ⊢
    have hI2 := hI
    obtain hj := hI
    refine pg_iload (pc := 19) hC dX5_wornOut_19 4 rfl ?_
    refine pg_bipush (pc := 21) (v := 10) hC dX5_wornOut_21 (by decide) ?_
    refine pg_icmp_geN (pc := 23) hC 42 dX5_wornOut_23 (by decide) (j) (10) rfl rfl (by omega) (by omega) (fun c4 => ?_) (fun c4 => ?_)
    · skip
      refine pg_iload_n (pc := 42) hC dX5_wornOut_42 1 rfl rfl ?_
      refine pg_iload_n (pc := 43) hC dX5_wornOut_43 3 rfl rfl ?_
      refine pg_if_ne (pc := 44) hC 51 dX5_wornOut_44 (by decide)  (fun c5 => ?_) (fun c5 => ?_)
      · skip
        refine pg_iconst (pc := 51) (v := 0) hC dX5_wornOut_51 (by decide) ?_
        refine pg_iadd (pc := 52) (v := (sCnt (fun e => sWO z e) k) + 0) hC dX5_wornOut_52 rfl ?_
        refine pg_istore_n (pc := 53) (vs' := [(1, .int ((sCnt (fun e => sWO z e) k) + 0)), (0, .ref (x 11 2)), (2, .int (nI k)), (3, .int (bx_sum (fun p => sNov z p k) j)), (4, .int (nI j))]) hC dX5_wornOut_53 rfl (by decide) rfl ?_
        refine pg_iinc (pc := 54) (v := nI (k + 1)) (vs' := [(2, .int (nI (k + 1))), (1, .int ((sCnt (fun e => sWO z e) k) + 0)), (0, .ref (x 11 2)), (3, .int (bx_sum (fun p => sNov z p k) j)), (4, .int (nI j))]) hC dX5_wornOut_54 2 rfl (nI_add (k) 1) (by decide) rfl ?_
        refine pg_goto (pc := 57) hC 4 dX5_wornOut_57 (by decide) ?_
        refine pg_sub (vs' := [(0, .ref (x 11 2)), (1, .int ((sCnt (fun e => sWO z e) k) + 0)), (2, .int (nI (k + 1)))]) [2, 1, 0] rfl ?_
        refine pg_vs (vs' := [(0, .ref (x 11 2)), (1, .int (sCnt (fun e => sWO z e) (k + 1))), (2, .int (nI (k + 1)))]) (by rw [show sCnt (fun e => sWO z e) (k + 1) = _ from if_pos (wo_0 hG (show k < 12 by omega) (show j = 10 by omega) c5), Int32.add_zero]) ?_
        exact ih1 (k + 1) (by omega) (by omega)
      · skip
        refine pg_iconst (pc := 47) (v := 1) hC dX5_wornOut_47 (by decide) ?_
        refine pg_goto (pc := 48) hC 52 dX5_wornOut_48 (by decide) ?_
        refine pg_iadd (pc := 52) (v := (sCnt (fun e => sWO z e) k) + 1) hC dX5_wornOut_52 rfl ?_
        refine pg_istore_n (pc := 53) (vs' := [(1, .int ((sCnt (fun e => sWO z e) k) + 1)), (0, .ref (x 11 2)), (2, .int (nI k)), (3, .int (bx_sum (fun p => sNov z p k) j)), (4, .int (nI j))]) hC dX5_wornOut_53 rfl (by decide) rfl ?_
        refine pg_iinc (pc := 54) (v := nI (k + 1)) (vs' := [(2, .int (nI (k + 1))), (1, .int ((sCnt (fun e => sWO z e) k) + 1)), (0, .ref (x 11 2)), (3, .int (bx_sum (fun p => sNov z p k) j)), (4, .int (nI j))]) hC dX5_wornOut_54 2 rfl (nI_add (k) 1) (by decide) rfl ?_
        refine pg_goto (pc := 57) hC 4 dX5_wornOut_57 (by decide) ?_
        refine pg_sub (vs' := [(0, .ref (x 11 2)), (1, .int ((sCnt (fun e => sWO z e) k) + 1)), (2, .int (nI (k + 1)))]) [2, 1, 0] rfl ?_
        refine pg_vs (vs' := [(0, .ref (x 11 2)), (1, .int (sCnt (fun e => sWO z e) (k + 1))), (2, .int (nI (k + 1)))]) (by rw [show sCnt (fun e => sWO z e) (k + 1) = _ from if_neg (wo_1 hG (show k < 12 by omega) (show j = 10 by omega) c5)]) ?_
        exact ih1 (k + 1) (by omega) (by omega)
    · skip
      refine pg_iload_n (pc := 26) hC dX5_wornOut_26 3 rfl rfl ?_
      refine pg_aload_n (pc := 27) hC dX5_wornOut_27 0 rfl rfl ?_
      refine pg_iload (pc := 28) hC dX5_wornOut_28 4 rfl ?_
      refine pg_iload_n (pc := 30) hC dX5_wornOut_30 2 rfl rfl ?_
      refine pg_callVRi (pc := 31) (As := [.int (nI j), .int (nI k)]) (rest := [.int (bx_sum (fun p => sNov z p k) j)]) hC dX5_wornOut_31 (cX5_noveltyOf_c l hok hR (j) (k) (by omega) (by omega)) (cwV 2 hC.2.2.2.2.1 gX5_wornOut_X5_noveltyOf rfl rfl rfl (by decide +kernel) ⟨Nat.le_of_ble_eq_true rfl, Nat.le_of_ble_eq_true rfl⟩) (ok_mem hok (by decide)) (ok_Mo hok) rfl rfl rfl rfl (Nat.le_of_ble_eq_true rfl) (Nat.zero_le _) (Nat.zero_le _) ?_
      refine pg_iadd (pc := 34) (v := (bx_sum (fun p => sNov z p k) j) + (sNov z (j) (k))) hC dX5_wornOut_34 rfl ?_
      refine pg_istore_n (pc := 35) (vs' := [(3, .int ((bx_sum (fun p => sNov z p k) j) + (sNov z (j) (k)))), (0, .ref (x 11 2)), (1, .int (sCnt (fun e => sWO z e) k)), (2, .int (nI k)), (4, .int (nI j))]) hC dX5_wornOut_35 rfl (by decide) rfl ?_
      refine pg_iinc (pc := 36) (v := nI (j + 1)) (vs' := [(4, .int (nI (j + 1))), (3, .int ((bx_sum (fun p => sNov z p k) j) + (sNov z (j) (k)))), (0, .ref (x 11 2)), (1, .int (sCnt (fun e => sWO z e) k)), (2, .int (nI k))]) hC dX5_wornOut_36 4 rfl (nI_add (j) 1) (by decide) rfl ?_
      refine pg_goto (pc := 39) hC 19 dX5_wornOut_39 (by decide) ?_
      refine pg_sub (vs' := [(0, .ref (x 11 2)), (1, .int (sCnt (fun e => sWO z e) k)), (2, .int (nI k)), (3, .int ((bx_sum (fun p => sNov z p k) j) + (sNov z (j) (k)))), (4, .int (nI (j + 1)))]) [2, 3, 4, 1, 0] rfl ?_
      exact ih3 (j + 1) (by omega) (by omega)
abbrev rmX5_count : Room := { frames := 4, cells := 0, slots := 0, locals := 92 }
theorem miX5_count_X5 : ∀ w ∈ wsX50, w ∈ wsX5_count := fun _ h => List.mem_cons_of_mem _ (List.mem_append_right _ h)
set_option maxHeartbeats 4000000 in
set_option maxRecDepth 20000 in
theorem cX5_count_c (l : Launch) {κ : pv_Kt} {L : List Nat} {f : Nat → va_E} {x : Nat → Nat → Nat} {Z : Nat → Nat → Nat → Int32} {g : Nat → Nat → Int32} (hok : pv_ok κ x L f (va_up Z 11 g)) {z : Nat → Nat → Int32} (hR : mR z (g 0)) {n : Nat} (hG : gd z n) (h6 : g 0 6 = bx_sum (z 9) 10) (wh : Int32) : pv_Mi l κ yX5_count wsX5_count rmX5_count L f [.ref (x 11 2), .int wh] 0 0 (pv_R L f (tCount z n (g 6 0) (g 2 0) wh)) := by
  refine pv_startI (cc := cX5_count) (maxL := 2) (ret := (some .int)) (by decide) rfl (Nat.le_of_ble_eq_true rfl) (fun A0 P0 E0 S0 M0 a0 B0 T0 C0 hC => ?_)
  refine pg_sub (vs' := [(0, .ref (x 11 2)), (1, .int wh)]) [0, 1] rfl ?_
  have hn12 := hG.n12
  refine pg_iload_n (pc := 0) hC dX5_count_0 1 rfl rfl ?_
  rcases tab_cases wh 0 19 (by omega) with ⟨j, hjl, hj, hxj⟩ | c1
  · skip
    rcases (show j = 0 ∨ j = 1 ∨ j = 2 ∨ j = 3 ∨ j = 4 ∨ j = 5 ∨ j = 6 ∨ j = 7 ∨ j = 8 ∨ j = 9 ∨ j = 10 ∨ j = 11 ∨ j = 12 ∨ j = 13 ∨ j = 14 ∨ j = 15 ∨ j = 16 ∨ j = 17 ∨ j = 18 ∨ j = 19 by omega) with rfl | rfl | rfl | rfl | rfl | rfl | rfl | rfl | rfl | rfl | rfl | rfl | rfl | rfl | rfl | rfl | rfl | rfl | rfl | rfl
    · skip
      have c2 : wh = 0 := hxj
      refine pg_tabIn (pc := 1) hC 96 dX5_count_1 (by rw [c2]; decide) (by rw [c2]; decide) (by rw [c2]; rfl) (by decide) ?_
      subst c2
      refine pg_aload_n (pc := 96) hC dX5_count_96 0 rfl rfl ?_
      refine pgM_geta (pc := 97) hC dX5_count_97 0 (List.mem_of_getElem? (i := 1) rfl) miX5_count_X5 hok (by decide) ?_
      refine pg_iload_n (pc := 100) hC dX5_count_100 1 rfl rfl ?_
      refine pgM_iald (pc := 101) (v := z 0 0) hC dX5_count_101 0 (0) hok (by decide) (by decide) (by decide) rfl (show 0 < 234 by omega) (hR 0 0 (show 0 < 5 by decide)) ?_
      exact pg_iret (pc := 102) hC dX5_count_102 rfl ⟨(by first | rfl | (simp [tCount]; done)), rfl⟩
    · skip
      have c3 : wh = 1 := hxj
      refine pg_tabIn (pc := 1) hC 96 dX5_count_1 (by rw [c3]; decide) (by rw [c3]; decide) (by rw [c3]; rfl) (by decide) ?_
      subst c3
      refine pg_aload_n (pc := 96) hC dX5_count_96 0 rfl rfl ?_
      refine pgM_geta (pc := 97) hC dX5_count_97 0 (List.mem_of_getElem? (i := 1) rfl) miX5_count_X5 hok (by decide) ?_
      refine pg_iload_n (pc := 100) hC dX5_count_100 1 rfl rfl ?_
      refine pgM_iald (pc := 101) (v := z 0 1) hC dX5_count_101 0 (1) hok (by decide) (by decide) (by decide) rfl (show 1 < 234 by omega) (hR 0 1 (show 1 < 5 by decide)) ?_
      exact pg_iret (pc := 102) hC dX5_count_102 rfl ⟨(by first | rfl | (simp [tCount]; done)), rfl⟩
    · skip
      have c4 : wh = 2 := hxj
      refine pg_tabIn (pc := 1) hC 96 dX5_count_1 (by rw [c4]; decide) (by rw [c4]; decide) (by rw [c4]; rfl) (by decide) ?_
      subst c4
      refine pg_aload_n (pc := 96) hC dX5_count_96 0 rfl rfl ?_
      refine pgM_geta (pc := 97) hC dX5_count_97 0 (List.mem_of_getElem? (i := 1) rfl) miX5_count_X5 hok (by decide) ?_
      refine pg_iload_n (pc := 100) hC dX5_count_100 1 rfl rfl ?_
      refine pgM_iald (pc := 101) (v := z 0 2) hC dX5_count_101 0 (2) hok (by decide) (by decide) (by decide) rfl (show 2 < 234 by omega) (hR 0 2 (show 2 < 5 by decide)) ?_
      exact pg_iret (pc := 102) hC dX5_count_102 rfl ⟨(by first | rfl | (simp [tCount]; done)), rfl⟩
    · skip
      have c5 : wh = 3 := hxj
      refine pg_tabIn (pc := 1) hC 96 dX5_count_1 (by rw [c5]; decide) (by rw [c5]; decide) (by rw [c5]; rfl) (by decide) ?_
      subst c5
      refine pg_aload_n (pc := 96) hC dX5_count_96 0 rfl rfl ?_
      refine pgM_geta (pc := 97) hC dX5_count_97 0 (List.mem_of_getElem? (i := 1) rfl) miX5_count_X5 hok (by decide) ?_
      refine pg_iload_n (pc := 100) hC dX5_count_100 1 rfl rfl ?_
      refine pgM_iald (pc := 101) (v := z 0 3) hC dX5_count_101 0 (3) hok (by decide) (by decide) (by decide) rfl (show 3 < 234 by omega) (hR 0 3 (show 3 < 5 by decide)) ?_
      exact pg_iret (pc := 102) hC dX5_count_102 rfl ⟨(by first | rfl | (simp [tCount]; done)), rfl⟩
    · skip
      have c6 : wh = 4 := hxj
      refine pg_tabIn (pc := 1) hC 96 dX5_count_1 (by rw [c6]; decide) (by rw [c6]; decide) (by rw [c6]; rfl) (by decide) ?_
      subst c6
      refine pg_aload_n (pc := 96) hC dX5_count_96 0 rfl rfl ?_
      refine pgM_geta (pc := 97) hC dX5_count_97 0 (List.mem_of_getElem? (i := 1) rfl) miX5_count_X5 hok (by decide) ?_
      refine pg_iload_n (pc := 100) hC dX5_count_100 1 rfl rfl ?_
      refine pgM_iald (pc := 101) (v := z 0 4) hC dX5_count_101 0 (4) hok (by decide) (by decide) (by decide) rfl (show 4 < 234 by omega) (hR 0 4 (show 4 < 5 by decide)) ?_
      exact pg_iret (pc := 102) hC dX5_count_102 rfl ⟨(by first | rfl | (simp [tCount]; done)), rfl⟩
    · skip
      have c7 : wh = 5 := hxj
      refine pg_tabIn (pc := 1) hC 96 dX5_count_1 (by rw [c7]; decide) (by rw [c7]; decide) (by rw [c7]; rfl) (by decide) ?_
      subst c7
      refine pg_aload_n (pc := 96) hC dX5_count_96 0 rfl rfl ?_
      refine pgM_geta (pc := 97) hC dX5_count_97 0 (List.mem_of_getElem? (i := 1) rfl) miX5_count_X5 hok (by decide) ?_
      refine pg_iload_n (pc := 100) hC dX5_count_100 1 rfl rfl ?_
      refine pgM_iald (pc := 101) (v := z 1 0) hC dX5_count_101 0 (5) hok (by decide) (by decide) (by decide) rfl (show 5 < 234 by omega) (hR 1 0 rfl) ?_
      exact pg_iret (pc := 102) hC dX5_count_102 rfl ⟨(by first | rfl | (simp [tCount]; done)), rfl⟩
    · skip
      have c8 : wh = 6 := hxj
      refine pg_tabIn (pc := 1) hC 96 dX5_count_1 (by rw [c8]; decide) (by rw [c8]; decide) (by rw [c8]; rfl) (by decide) ?_
      subst c8
      refine pg_aload_n (pc := 96) hC dX5_count_96 0 rfl rfl ?_
      refine pgM_geta (pc := 97) hC dX5_count_97 0 (List.mem_of_getElem? (i := 1) rfl) miX5_count_X5 hok (by decide) ?_
      refine pg_iload_n (pc := 100) hC dX5_count_100 1 rfl rfl ?_
      refine pgM_iald (pc := 101) (v := bx_sum (z 9) 10) hC dX5_count_101 0 (6) hok (by decide) (by decide) (by decide) rfl (show 6 < 234 by omega) h6 ?_
      exact pg_iret (pc := 102) hC dX5_count_102 rfl ⟨(by first | rfl | (simp [tCount]; done)), rfl⟩
    · skip
      have c9 : wh = 7 := hxj
      refine pg_tabIn (pc := 1) hC 96 dX5_count_1 (by rw [c9]; decide) (by rw [c9]; decide) (by rw [c9]; rfl) (by decide) ?_
      subst c9
      refine pg_aload_n (pc := 96) hC dX5_count_96 0 rfl rfl ?_
      refine pgM_geta (pc := 97) hC dX5_count_97 0 (List.mem_of_getElem? (i := 1) rfl) miX5_count_X5 hok (by decide) ?_
      refine pg_iload_n (pc := 100) hC dX5_count_100 1 rfl rfl ?_
      refine pgM_iald (pc := 101) (v := z 13 1) hC dX5_count_101 0 (7) hok (by decide) (by decide) (by decide) rfl (show 7 < 234 by omega) (hR 13 1 (show 1 ≤ 1 ∧ 1 ≤ 4 by decide)) ?_
      exact pg_iret (pc := 102) hC dX5_count_102 rfl ⟨(by first | rfl | (simp [tCount]; done)), rfl⟩
    · skip
      have c10 : wh = 8 := hxj
      refine pg_tabIn (pc := 1) hC 96 dX5_count_1 (by rw [c10]; decide) (by rw [c10]; decide) (by rw [c10]; rfl) (by decide) ?_
      subst c10
      refine pg_aload_n (pc := 96) hC dX5_count_96 0 rfl rfl ?_
      refine pgM_geta (pc := 97) hC dX5_count_97 0 (List.mem_of_getElem? (i := 1) rfl) miX5_count_X5 hok (by decide) ?_
      refine pg_iload_n (pc := 100) hC dX5_count_100 1 rfl rfl ?_
      refine pgM_iald (pc := 101) (v := z 13 2) hC dX5_count_101 0 (8) hok (by decide) (by decide) (by decide) rfl (show 8 < 234 by omega) (hR 13 2 (show 1 ≤ 2 ∧ 2 ≤ 4 by decide)) ?_
      exact pg_iret (pc := 102) hC dX5_count_102 rfl ⟨(by first | rfl | (simp [tCount]; done)), rfl⟩
    · skip
      have c11 : wh = 9 := hxj
      refine pg_tabIn (pc := 1) hC 96 dX5_count_1 (by rw [c11]; decide) (by rw [c11]; decide) (by rw [c11]; rfl) (by decide) ?_
      subst c11
      refine pg_aload_n (pc := 96) hC dX5_count_96 0 rfl rfl ?_
      refine pgM_geta (pc := 97) hC dX5_count_97 0 (List.mem_of_getElem? (i := 1) rfl) miX5_count_X5 hok (by decide) ?_
      refine pg_iload_n (pc := 100) hC dX5_count_100 1 rfl rfl ?_
      refine pgM_iald (pc := 101) (v := z 13 3) hC dX5_count_101 0 (9) hok (by decide) (by decide) (by decide) rfl (show 9 < 234 by omega) (hR 13 3 (show 1 ≤ 3 ∧ 3 ≤ 4 by decide)) ?_
      exact pg_iret (pc := 102) hC dX5_count_102 rfl ⟨(by first | rfl | (simp [tCount]; done)), rfl⟩
    · skip
      have c12 : wh = 10 := hxj
      refine pg_tabIn (pc := 1) hC 96 dX5_count_1 (by rw [c12]; decide) (by rw [c12]; decide) (by rw [c12]; rfl) (by decide) ?_
      subst c12
      refine pg_aload_n (pc := 96) hC dX5_count_96 0 rfl rfl ?_
      refine pgM_geta (pc := 97) hC dX5_count_97 0 (List.mem_of_getElem? (i := 1) rfl) miX5_count_X5 hok (by decide) ?_
      refine pg_iload_n (pc := 100) hC dX5_count_100 1 rfl rfl ?_
      refine pgM_iald (pc := 101) (v := z 13 4) hC dX5_count_101 0 (10) hok (by decide) (by decide) (by decide) rfl (show 10 < 234 by omega) (hR 13 4 (show 1 ≤ 4 ∧ 4 ≤ 4 by decide)) ?_
      exact pg_iret (pc := 102) hC dX5_count_102 rfl ⟨(by first | rfl | (simp [tCount]; done)), rfl⟩
    · skip
      have c13 : wh = 11 := hxj
      refine pg_tabIn (pc := 1) hC 103 dX5_count_1 (by rw [c13]; decide) (by rw [c13]; decide) (by rw [c13]; rfl) (by decide) ?_
      subst c13
      refine pg_aload_n (pc := 103) hC dX5_count_103 0 rfl rfl ?_
      refine pg_iconst (pc := 104) (v := 1) hC dX5_count_104 (by decide) ?_
      refine pg_callVRi (pc := 105) (As := [.int 1]) (rest := []) hC dX5_count_105 (cX5_sumOfPupils_c l hok 1 (by decide)) (cwV 1 hC.2.2.2.2.1 gX5_count_X5_sumOfPupils rfl rfl rfl (by decide +kernel) ⟨Nat.le_of_ble_eq_true rfl, Nat.le_of_ble_eq_true rfl⟩) (ok_mem hok (by decide)) (ok_Mo hok) rfl rfl rfl rfl (Nat.le_of_ble_eq_true rfl) (Nat.zero_le _) (Nat.zero_le _) ?_
      refine pg_top (x' := bx_sum (z 7) 10) (bx_congr (fun p hp => hR 7 p hp)) ?_
      exact pg_iret (pc := 108) hC dX5_count_108 rfl ⟨(by first | rfl | (simp [tCount]; done)), rfl⟩
    · skip
      have c14 : wh = 12 := hxj
      refine pg_tabIn (pc := 1) hC 109 dX5_count_1 (by rw [c14]; decide) (by rw [c14]; decide) (by rw [c14]; rfl) (by decide) ?_
      subst c14
      refine pg_aload_n (pc := 109) hC dX5_count_109 0 rfl rfl ?_
      refine pg_iconst (pc := 110) (v := 5) hC dX5_count_110 (by decide) ?_
      refine pg_callVRi (pc := 111) (As := [.int 5]) (rest := []) hC dX5_count_111 (cX5_sumOfPupils_c l hok 5 (by decide)) (cwV 1 hC.2.2.2.2.1 gX5_count_X5_sumOfPupils rfl rfl rfl (by decide +kernel) ⟨Nat.le_of_ble_eq_true rfl, Nat.le_of_ble_eq_true rfl⟩) (ok_mem hok (by decide)) (ok_Mo hok) rfl rfl rfl rfl (Nat.le_of_ble_eq_true rfl) (Nat.zero_le _) (Nat.zero_le _) ?_
      refine pg_top (x' := bx_sum (z 8) 10) (bx_congr (fun p hp => hR 8 p hp)) ?_
      exact pg_iret (pc := 114) hC dX5_count_114 rfl ⟨(by first | rfl | (simp [tCount]; done)), rfl⟩
    · skip
      have c15 : wh = 13 := hxj
      refine pg_tabIn (pc := 1) hC 115 dX5_count_1 (by rw [c15]; decide) (by rw [c15]; decide) (by rw [c15]; rfl) (by decide) ?_
      subst c15
      refine pg_aload_n (pc := 115) hC dX5_count_115 0 rfl rfl ?_
      refine pg_iconst (pc := 116) (v := 1) hC dX5_count_116 (by decide) ?_
      refine pg_callVRi (pc := 117) (As := [.int 1]) (rest := []) hC dX5_count_117 (cX5_sumOfPupils_c l hok 1 (by decide)) (cwV 1 hC.2.2.2.2.1 gX5_count_X5_sumOfPupils rfl rfl rfl (by decide +kernel) ⟨Nat.le_of_ble_eq_true rfl, Nat.le_of_ble_eq_true rfl⟩) (ok_mem hok (by decide)) (ok_Mo hok) rfl rfl rfl rfl (Nat.le_of_ble_eq_true rfl) (Nat.zero_le _) (Nat.zero_le _) ?_
      refine pg_top (x' := bx_sum (z 7) 10) (bx_congr (fun p hp => hR 7 p hp)) ?_
      refine pg_aload_n (pc := 120) hC dX5_count_120 0 rfl rfl ?_
      refine pg_iconst (pc := 121) (v := 5) hC dX5_count_121 (by decide) ?_
      refine pg_callVRi (pc := 122) (As := [.int 5]) (rest := [.int (bx_sum (z 7) 10)]) hC dX5_count_122 (cX5_sumOfPupils_c l hok 5 (by decide)) (cwV 1 hC.2.2.2.2.1 gX5_count_X5_sumOfPupils rfl rfl rfl (by decide +kernel) ⟨Nat.le_of_ble_eq_true rfl, Nat.le_of_ble_eq_true rfl⟩) (ok_mem hok (by decide)) (ok_Mo hok) rfl rfl rfl rfl (Nat.le_of_ble_eq_true rfl) (Nat.zero_le _) (Nat.zero_le _) ?_
      refine pg_top (x' := bx_sum (z 8) 10) (bx_congr (fun p hp => hR 8 p hp)) ?_
      refine pg_iadd (pc := 125) (v := (bx_sum (z 7) 10) + (bx_sum (z 8) 10)) hC dX5_count_125 rfl ?_
      exact pg_iret (pc := 126) hC dX5_count_126 rfl ⟨(by first | rfl | (simp [tCount]; done)), rfl⟩
    · skip
      have c16 : wh = 14 := hxj
      refine pg_tabIn (pc := 1) hC 127 dX5_count_1 (by rw [c16]; decide) (by rw [c16]; decide) (by rw [c16]; rfl) (by decide) ?_
      subst c16
      refine pg_aload_n (pc := 127) hC dX5_count_127 0 rfl rfl ?_
      refine pgM_geta (pc := 128) hC dX5_count_128 0 (List.mem_of_getElem? (i := 1) rfl) miX5_count_X5 hok (by decide) ?_
      refine pg_bipush (pc := 131) (v := 11) hC dX5_count_131 (by decide) ?_
      refine pgM_iald (pc := 133) (v := z 14 0) hC dX5_count_133 0 (11) hok (by decide) (by decide) (by decide) rfl (show 11 < 234 by omega) (hR 14 0 rfl) ?_
      exact pg_iret (pc := 134) hC dX5_count_134 rfl ⟨(by first | rfl | (simp [tCount]; done)), rfl⟩
    · skip
      have c17 : wh = 15 := hxj
      refine pg_tabIn (pc := 1) hC 135 dX5_count_1 (by rw [c17]; decide) (by rw [c17]; decide) (by rw [c17]; rfl) (by decide) ?_
      subst c17
      refine pg_aload_n (pc := 135) hC dX5_count_135 0 rfl rfl ?_
      refine pg_iconst (pc := 136) (v := 0) hC dX5_count_136 (by decide) ?_
      refine pg_callVRi (pc := 137) (As := [.int 0]) (rest := []) hC dX5_count_137 (cX5_sumOfPupils_c l hok 0 (by decide)) (cwV 1 hC.2.2.2.2.1 gX5_count_X5_sumOfPupils rfl rfl rfl (by decide +kernel) ⟨Nat.le_of_ble_eq_true rfl, Nat.le_of_ble_eq_true rfl⟩) (ok_mem hok (by decide)) (ok_Mo hok) rfl rfl rfl rfl (Nat.le_of_ble_eq_true rfl) (Nat.zero_le _) (Nat.zero_le _) ?_
      refine pg_top (x' := bx_sum (z 6) 10) (bx_congr (fun p hp => hR 6 p hp)) ?_
      exact pg_iret (pc := 140) hC dX5_count_140 rfl ⟨(by first | rfl | (simp [tCount]; done)), rfl⟩
    · skip
      have c18 : wh = 16 := hxj
      refine pg_tabIn (pc := 1) hC 141 dX5_count_1 (by rw [c18]; decide) (by rw [c18]; decide) (by rw [c18]; rfl) (by decide) ?_
      subst c18
      refine pg_aload_n (pc := 141) hC dX5_count_141 0 rfl rfl ?_
      refine pg_callVRi (pc := 142) (As := []) (rest := []) hC dX5_count_142 (cX5_grudges_c l hok hR ) (cwV 0 hC.2.2.2.2.1 gX5_count_X5_grudges rfl rfl rfl (by decide +kernel) ⟨Nat.le_of_ble_eq_true rfl, Nat.le_of_ble_eq_true rfl⟩) (ok_mem hok (by decide)) (ok_Mo hok) rfl rfl rfl rfl (Nat.le_of_ble_eq_true rfl) (Nat.zero_le _) (Nat.zero_le _) ?_
      exact pg_iret (pc := 145) hC dX5_count_145 rfl ⟨(by first | rfl | (simp [tCount]; done)), rfl⟩
    · skip
      have c19 : wh = 17 := hxj
      refine pg_tabIn (pc := 1) hC 146 dX5_count_1 (by rw [c19]; decide) (by rw [c19]; decide) (by rw [c19]; rfl) (by decide) ?_
      subst c19
      refine pg_aload_n (pc := 146) hC dX5_count_146 0 rfl rfl ?_
      refine pg_callVRi (pc := 147) (As := []) (rest := []) hC dX5_count_147 (cX5_wornOut_c l hok hR hG ) (cwV 0 hC.2.2.2.2.1 gX5_count_X5_wornOut rfl rfl rfl (by decide +kernel) ⟨Nat.le_of_ble_eq_true rfl, Nat.le_of_ble_eq_true rfl⟩) (ok_mem hok (by decide)) (ok_Mo hok) rfl rfl rfl rfl (Nat.le_of_ble_eq_true rfl) (Nat.zero_le _) (Nat.zero_le _) ?_
      exact pg_iret (pc := 150) hC dX5_count_150 rfl ⟨(by first | rfl | (simp [tCount]; done)), rfl⟩
    · skip
      have c20 : wh = 18 := hxj
      refine pg_tabIn (pc := 1) hC 151 dX5_count_1 (by rw [c20]; decide) (by rw [c20]; decide) (by rw [c20]; rfl) (by decide) ?_
      subst c20
      refine pg_aload_n (pc := 151) hC dX5_count_151 0 rfl rfl ?_
      refine pgM_geti (pc := 152) (v := g 6 0) hC dX5_count_152 6 (List.mem_of_getElem? (i := 2) rfl) miX5_count_X5 hok (by decide) rfl ?_
      exact pg_iret (pc := 155) hC dX5_count_155 rfl ⟨(by first | rfl | (simp [tCount]; done)), rfl⟩
    · skip
      have c21 : wh = 19 := hxj
      refine pg_tabIn (pc := 1) hC 156 dX5_count_1 (by rw [c21]; decide) (by rw [c21]; decide) (by rw [c21]; rfl) (by decide) ?_
      subst c21
      refine pg_aload_n (pc := 156) hC dX5_count_156 0 rfl rfl ?_
      refine pgM_geti (pc := 157) (v := g 2 0) hC dX5_count_157 2 (List.mem_of_getElem? (i := 3) rfl) miX5_count_X5 hok (by decide) rfl ?_
      exact pg_iret (pc := 160) hC dX5_count_160 rfl ⟨(by first | rfl | (simp [tCount]; done)), rfl⟩
  · skip
    refine pg_tabOut (pc := 1) hC 161 dX5_count_1 c1 (by decide) ?_
    have n22 : ¬ wh = 0 := fun q => by rw [q] at c1; revert c1; decide
    have n23 : ¬ wh = 1 := fun q => by rw [q] at c1; revert c1; decide
    have n24 : ¬ wh = 2 := fun q => by rw [q] at c1; revert c1; decide
    have n25 : ¬ wh = 3 := fun q => by rw [q] at c1; revert c1; decide
    have n26 : ¬ wh = 4 := fun q => by rw [q] at c1; revert c1; decide
    have n27 : ¬ wh = 5 := fun q => by rw [q] at c1; revert c1; decide
    have n28 : ¬ wh = 6 := fun q => by rw [q] at c1; revert c1; decide
    have n29 : ¬ wh = 7 := fun q => by rw [q] at c1; revert c1; decide
    have n30 : ¬ wh = 8 := fun q => by rw [q] at c1; revert c1; decide
    have n31 : ¬ wh = 9 := fun q => by rw [q] at c1; revert c1; decide
    have n32 : ¬ wh = 10 := fun q => by rw [q] at c1; revert c1; decide
    have n33 : ¬ wh = 11 := fun q => by rw [q] at c1; revert c1; decide
    have n34 : ¬ wh = 12 := fun q => by rw [q] at c1; revert c1; decide
    have n35 : ¬ wh = 13 := fun q => by rw [q] at c1; revert c1; decide
    have n36 : ¬ wh = 14 := fun q => by rw [q] at c1; revert c1; decide
    have n37 : ¬ wh = 15 := fun q => by rw [q] at c1; revert c1; decide
    have n38 : ¬ wh = 16 := fun q => by rw [q] at c1; revert c1; decide
    have n39 : ¬ wh = 17 := fun q => by rw [q] at c1; revert c1; decide
    have n40 : ¬ wh = 18 := fun q => by rw [q] at c1; revert c1; decide
    have n41 : ¬ wh = 19 := fun q => by rw [q] at c1; revert c1; decide
    have hb0 : bW wh 0 4 = 0 := bW_out5 n22 n23 n24 n25 n26
    refine pg_bipush (pc := 161) (v := (-2)) hC dX5_count_161 (by decide) ?_
    exact pg_iret (pc := 163) hC dX5_count_163 rfl ⟨(by first | rfl | (simp [tCount, n22, n23, n24, n25, n26, n27, n28, n29, n30, n31, n32, n33, n34, n35, n36, n37, n38, n39, n40, n41, hb0]; done)), rfl⟩
abbrev rmX5_bestExcuse : Room := { frames := 5, cells := 0, slots := 0, locals := 116 }
theorem miX5_bestExcuse_X5 : ∀ w ∈ wsX50, w ∈ wsX5_bestExcuse := fun _ h => List.mem_cons_of_mem _ (List.mem_append_right _ h)
set_option maxHeartbeats 2000000 in
set_option maxRecDepth 20000 in
theorem cX5_bestExcuse_c (l : Launch) {κ : pv_Kt} {L : List Nat} {f : Nat → va_E} {x : Nat → Nat → Nat} {Z : Nat → Nat → Nat → Int32} {g : Nat → Nat → Int32} (hok : pv_ok κ x L f (va_up Z 11 g)) {z : Nat → Nat → Int32} (hR : mR z (g 0)) {n : Nat} (hG : gd z n) (pp mn : Int32) : pv_Mi l κ yX5_bestExcuse wsX5_bestExcuse rmX5_bestExcuse L f [.ref (x 11 2), .int pp, .int mn] 0 0 (pv_R L f (tBestE z n pp mn)) := by
  refine pv_startI (cc := cX5_bestExcuse) (maxL := 6) (ret := (some .int)) (by decide) rfl (Nat.le_of_ble_eq_true rfl) (fun A0 P0 E0 S0 M0 a0 B0 T0 C0 hC => ?_)
  refine pg_sub (vs' := [(0, .ref (x 11 2)), (1, .int pp), (2, .int mn)]) [0, 1, 2] rfl ?_
  have hn12 := hG.n12
  refine pg_iload_n (pc := 0) hC dX5_bestExcuse_0 1 rfl rfl ?_
  refine pg_callSRi (pc := 1) (As := [.int pp]) (rest := []) hC dX5_bestExcuse_1 (cX5_isPupil_c l pp) (va_cwS 1 hC.2.2.2.2.1 gX5_bestExcuse_X5_isPupil rfl rfl rfl (by decide +kernel) ⟨Nat.le_of_ble_eq_true rfl, Nat.le_of_ble_eq_true rfl⟩) rfl rfl (Nat.le_of_ble_eq_true rfl) (Nat.zero_le _) (Nat.zero_le _) ?_
  refine pg_if_eq (pc := 4) hC 17 dX5_bestExcuse_4 (by decide)  (fun c1 => ?_) (fun c1 => ?_)
  · skip
    refine pg_iload_n (pc := 17) hC dX5_bestExcuse_17 1 rfl rfl ?_
    refine pg_callSRi (pc := 18) (As := [.int pp]) (rest := []) hC dX5_bestExcuse_18 (cX5_isPupil_c l pp) (va_cwS 1 hC.2.2.2.2.1 gX5_bestExcuse_X5_isPupil rfl rfl rfl (by decide +kernel) ⟨Nat.le_of_ble_eq_true rfl, Nat.le_of_ble_eq_true rfl⟩) rfl rfl (Nat.le_of_ble_eq_true rfl) (Nat.zero_le _) (Nat.zero_le _) ?_
    refine pg_if_eq (pc := 21) hC 29 dX5_bestExcuse_21 (by decide)  (fun c2 => ?_) (fun c2 => ?_)
    · skip
      refine pg_iconst (pc := 29) (v := (-1)) hC dX5_bestExcuse_29 (by decide) ?_
      exact pg_iret (pc := 30) hC dX5_bestExcuse_30 rfl ⟨(by first | exact absurd c1 c2 | exact absurd c2 c1 | (simp [tBestE, c1, c2]; done)), rfl⟩
    · skip
      refine pg_bipush (pc := 24) (v := (-2)) hC dX5_bestExcuse_24 (by decide) ?_
      refine pg_goto (pc := 26) hC 30 dX5_bestExcuse_26 (by decide) ?_
      exact pg_iret (pc := 30) hC dX5_bestExcuse_30 rfl ⟨(by first | exact absurd c1 c2 | exact absurd c2 c1 | (simp [tBestE, c1, c2]; done)), rfl⟩
  · skip
    obtain ⟨p, hp, rfl⟩ := bW_nat (m := 9) rfl (by decide) c1
    have clp : cl (nI p) = p := cl_nI (by omega)
    refine pg_iload_n (pc := 7) hC dX5_bestExcuse_7 2 rfl rfl ?_
    refine pg_iconst (pc := 8) (v := 1) hC dX5_bestExcuse_8 (by decide) ?_
    refine pg_bipush (pc := 9) (v := 99) hC dX5_bestExcuse_9 (by decide) ?_
    refine pg_callSRi (pc := 11) (As := [.int mn, .int 1, .int 99]) (rest := []) hC dX5_bestExcuse_11 (cX5_in_c l mn 1 99) (va_cwS 3 hC.2.2.2.2.1 gX5_bestExcuse_X5_in rfl rfl rfl (by decide +kernel) ⟨Nat.le_of_ble_eq_true rfl, Nat.le_of_ble_eq_true rfl⟩) rfl rfl (Nat.le_of_ble_eq_true rfl) (Nat.zero_le _) (Nat.zero_le _) ?_
    refine pg_if_ne (pc := 14) hC 31 dX5_bestExcuse_14 (by decide)  (fun c3 => ?_) (fun c3 => ?_)
    · skip
      refine pg_bipush (pc := 31) (v := (-6)) hC dX5_bestExcuse_31 (by decide) ?_
      refine pg_istore_n (pc := 33) (vs' := [(3, .int (-6)), (0, .ref (x 11 2)), (1, .int (nI p)), (2, .int mn)]) hC dX5_bestExcuse_33 rfl (by decide) rfl ?_
      refine pg_iconst (pc := 34) (v := 0) hC dX5_bestExcuse_34 (by decide) ?_
      refine pg_istore (pc := 35) (vs' := [(4, .int 0), (3, .int (-6)), (0, .ref (x 11 2)), (1, .int (nI p)), (2, .int mn)]) hC dX5_bestExcuse_35 (by decide) rfl ?_
      refine pg_sub (vs' := [(0, .ref (x 11 2)), (1, .int (nI p)), (2, .int mn), (3, .int (-6)), (4, .int 0)]) [2, 3, 4, 1, 0] rfl ?_
      refine pg_loop (pc := 37) (σ := Nat) (I := fun q => match q with | k => k ≤ n) (μ := fun q => match q with | k => n - k) (VS := fun q => match q with | k => [(0, .ref (x 11 2)), (1, .int (nI p)), (2, .int mn), (3, .int ((sBE z p mn k).1)), (4, .int (nI k))]) (FF := fun q => match q with | k => f) ?_ (0) (Nat.zero_le _)
      intro q hI ih4
      obtain ⟨k, rfl⟩ : ∃ z, z = q := ⟨_, rfl⟩
      dsimp only at hI ih4 ⊢
      have hI2 := hI
      obtain hk := hI
      refine pg_iload (pc := 37) hC dX5_bestExcuse_37 4 rfl ?_
      refine pg_aload_n (pc := 39) hC dX5_bestExcuse_39 0 rfl rfl ?_
      refine pgM_geta (pc := 40) hC dX5_bestExcuse_40 0 (List.mem_of_getElem? (i := 1) rfl) miX5_bestExcuse_X5 hok (by decide) ?_
      refine pg_iconst (pc := 43) (v := 5) hC dX5_bestExcuse_43 (by decide) ?_
      refine pgM_iald (pc := 44) (v := nI n) hC dX5_bestExcuse_44 0 (5) hok (by decide) (by decide) (by decide) rfl (show 5 < 234 by omega) ((hR 1 0 rfl).trans hG.n) ?_
      refine pg_icmp_geN (pc := 45) hC 114 dX5_bestExcuse_45 (by decide) (k) (n) rfl rfl (by omega) (by omega) (fun c5 => ?_) (fun c5 => ?_)
      · skip
        refine pg_iload_n (pc := 114) hC dX5_bestExcuse_114 3 rfl rfl ?_
        exact pg_iret (pc := 115) hC dX5_bestExcuse_115 rfl ⟨(by rw [show k = n by omega]; simp [tBestE, c1, c3, clp]), rfl⟩
      · skip
        refine pg_aload_n (pc := 48) hC dX5_bestExcuse_48 0 rfl rfl ?_
        refine pg_iload_n (pc := 49) hC dX5_bestExcuse_49 1 rfl rfl ?_
        refine pg_iload (pc := 50) hC dX5_bestExcuse_50 4 rfl ?_
        refine pg_bipush (pc := 52) (v := (-6)) hC dX5_bestExcuse_52 (by decide) ?_
        refine pg_iload_n (pc := 54) hC dX5_bestExcuse_54 2 rfl rfl ?_
        refine pg_callVRi (pc := 55) (As := [.int (nI p), .int (nI k), .int (-6), .int mn]) (rest := []) hC dX5_bestExcuse_55 (cX5_reason_c l hok hR hG (p) (k) (by omega) (by omega) (-6) (Or.inl rfl) mn) (cwV 4 hC.2.2.2.2.1 gX5_bestExcuse_X5_reason rfl rfl rfl (by decide +kernel) ⟨Nat.le_of_ble_eq_true rfl, Nat.le_of_ble_eq_true rfl⟩) (ok_mem hok (by decide)) (ok_Mo hok) rfl rfl rfl rfl (Nat.le_of_ble_eq_true rfl) (Nat.zero_le _) (Nat.zero_le _) ?_
        refine pg_if_ne (pc := 58) hC 65 dX5_bestExcuse_58 (by decide)  (fun c6 => ?_) (fun c6 => ?_)
        · skip
          refine pg_iconst (pc := 65) (v := 0) hC dX5_bestExcuse_65 (by decide) ?_
          refine pg_istore (pc := 66) (vs' := [(5, .int 0), (0, .ref (x 11 2)), (1, .int (nI p)), (2, .int mn), (3, .int ((sBE z p mn k).1)), (4, .int (nI k))]) hC dX5_bestExcuse_66 (by decide) rfl ?_
          refine pg_iload (pc := 68) hC dX5_bestExcuse_68 0 rfl ?_
          refine pg_if_eq (pc := 70) hC 106 dX5_bestExcuse_70 (by decide)  (fun c7 => ?_) (fun c7 => False.elim (absurd (by decide) c7))
          refine pg_iload_n (pc := 106) hC dX5_bestExcuse_106 4 rfl rfl ?_
          refine pg_istore_n (pc := 107) (vs' := [(3, .int ((sBE z p mn k).1)), (5, .int 0), (0, .ref (x 11 2)), (1, .int (nI p)), (2, .int mn), (4, .int (nI k))]) hC dX5_bestExcuse_107 rfl (by decide) rfl ?_
          refine pg_iinc (pc := 108) (v := nI (k + 1)) (vs' := [(4, .int (nI (k + 1))), (3, .int ((sBE z p mn k).1)), (5, .int 0), (0, .ref (x 11 2)), (1, .int (nI p)), (2, .int mn)]) hC dX5_bestExcuse_108 5 rfl (nI_add (k) 1) (by decide) rfl ?_
          refine pg_goto (pc := 111) hC 37 dX5_bestExcuse_111 (by decide) ?_
          refine pg_sub (vs' := [(0, .ref (x 11 2)), (1, .int (nI p)), (2, .int mn), (3, .int ((sBE z p mn k).1)), (4, .int (nI (k + 1)))]) [3, 4, 5, 1, 0] rfl ?_
          refine pg_vs (vs' := [(0, .ref (x 11 2)), (1, .int (nI p)), (2, .int mn), (3, .int ((sBE z p mn (k + 1)).1)), (4, .int (nI (k + 1)))]) (by rw [show (sBE z p mn (k + 1)).1 = (sBE z p mn k).1 from by simp [sBE, c1, c3, c5, c6, c7, clp]]) ?_
          exact ih4 (k + 1) (by omega) (by omega)
        · skip
          refine pg_iconst (pc := 61) (v := 1) hC dX5_bestExcuse_61 (by decide) ?_
          refine pg_goto (pc := 62) hC 66 dX5_bestExcuse_62 (by decide) ?_
          refine pg_istore (pc := 66) (vs' := [(5, .int 1), (0, .ref (x 11 2)), (1, .int (nI p)), (2, .int mn), (3, .int ((sBE z p mn k).1)), (4, .int (nI k))]) hC dX5_bestExcuse_66 (by decide) rfl ?_
          refine pg_iload (pc := 68) hC dX5_bestExcuse_68 0 rfl ?_
          refine pg_if_eq (pc := 70) hC 106 dX5_bestExcuse_70 (by decide)  (fun c8 => False.elim (absurd c8 (by decide))) (fun c8 => ?_)
          refine pg_iload_n (pc := 73) hC dX5_bestExcuse_73 4 rfl rfl ?_
          refine pg_bipush (pc := 74) (v := (-6)) hC dX5_bestExcuse_74 (by decide) ?_
          refine pg_icmp_eq (pc := 76) hC 101 dX5_bestExcuse_76 (by decide)  (fun c9 => ?_) (fun c9 => ?_)
          · skip
            refine pg_iload (pc := 101) hC dX5_bestExcuse_101 5 rfl ?_
            refine pg_goto (pc := 103) hC 107 dX5_bestExcuse_103 (by decide) ?_
            refine pg_istore_n (pc := 107) (vs' := [(3, .int (nI k)), (5, .int 1), (0, .ref (x 11 2)), (1, .int (nI p)), (2, .int mn), (4, .int (nI k))]) hC dX5_bestExcuse_107 rfl (by decide) rfl ?_
            refine pg_iinc (pc := 108) (v := nI (k + 1)) (vs' := [(4, .int (nI (k + 1))), (3, .int (nI k)), (5, .int 1), (0, .ref (x 11 2)), (1, .int (nI p)), (2, .int mn)]) hC dX5_bestExcuse_108 5 rfl (nI_add (k) 1) (by decide) rfl ?_
            refine pg_goto (pc := 111) hC 37 dX5_bestExcuse_111 (by decide) ?_
            refine pg_sub (vs' := [(0, .ref (x 11 2)), (1, .int (nI p)), (2, .int mn), (3, .int (nI k)), (4, .int (nI (k + 1)))]) [3, 4, 5, 1, 0] rfl ?_
            refine pg_vs (vs' := [(0, .ref (x 11 2)), (1, .int (nI p)), (2, .int mn), (3, .int ((sBE z p mn (k + 1)).1)), (4, .int (nI (k + 1)))]) (by rw [show (sBE z p mn (k + 1)).1 = nI k from by simp [sBE, c1, c3, c5, c6, c8, c9, clp]]) ?_
            exact ih4 (k + 1) (by omega) (by omega)
          · skip
            obtain ⟨j, hj, hj1, hj2⟩ := (sBE_inv z p mn k).resolve_left c9
            refine pg_vs (vs' := [(5, .int 1), (0, .ref (x 11 2)), (1, .int (nI p)), (2, .int mn), (3, .int (nI j)), (4, .int (nI k))]) (by rw [hj1]) ?_
            have hj6 : ¬ nI j = -6 := by rw [← hj1]; exact c9
            refine pg_aload_n (pc := 79) hC dX5_bestExcuse_79 1 rfl rfl ?_
            refine pg_iload_n (pc := 80) hC dX5_bestExcuse_80 2 rfl rfl ?_
            refine pg_iload (pc := 81) hC dX5_bestExcuse_81 5 rfl ?_
            refine pg_bipush (pc := 83) (v := (-6)) hC dX5_bestExcuse_83 (by decide) ?_
            refine pg_iload_n (pc := 85) hC dX5_bestExcuse_85 3 rfl rfl ?_
            refine pg_callVRi (pc := 86) (As := [.int (nI p), .int (nI k), .int (-6), .int mn]) (rest := []) hC dX5_bestExcuse_86 (cX5_weightOf_c l hok hR hG (p) (k) (by omega) (by omega) (-6) (Or.inl rfl) mn) (cwV 4 hC.2.2.2.2.1 gX5_bestExcuse_X5_weightOf rfl rfl rfl (by decide +kernel) ⟨Nat.le_of_ble_eq_true rfl, Nat.le_of_ble_eq_true rfl⟩) (ok_mem hok (by decide)) (ok_Mo hok) rfl rfl rfl rfl (Nat.le_of_ble_eq_true rfl) (Nat.zero_le _) (Nat.zero_le _) ?_
            refine pg_aload_n (pc := 89) hC dX5_bestExcuse_89 1 rfl rfl ?_
            refine pg_iload_n (pc := 90) hC dX5_bestExcuse_90 2 rfl rfl ?_
            refine pg_iload_n (pc := 91) hC dX5_bestExcuse_91 4 rfl rfl ?_
            refine pg_bipush (pc := 92) (v := (-6)) hC dX5_bestExcuse_92 (by decide) ?_
            refine pg_iload_n (pc := 94) hC dX5_bestExcuse_94 3 rfl rfl ?_
            refine pg_callVRi (pc := 95) (As := [.int (nI p), .int (nI j), .int (-6), .int mn]) (rest := [.int (sWt z (p) (k) (-6) mn)]) hC dX5_bestExcuse_95 (cX5_weightOf_c l hok hR hG (p) (j) (by omega) (by omega) (-6) (Or.inl rfl) mn) (cwV 4 hC.2.2.2.2.1 gX5_bestExcuse_X5_weightOf rfl rfl rfl (by decide +kernel) ⟨Nat.le_of_ble_eq_true rfl, Nat.le_of_ble_eq_true rfl⟩) (ok_mem hok (by decide)) (ok_Mo hok) rfl rfl rfl rfl (Nat.le_of_ble_eq_true rfl) (Nat.zero_le _) (Nat.zero_le _) ?_
            refine pg_icmp_le (pc := 98) hC 106 dX5_bestExcuse_98 (by decide)  (fun c10 => ?_) (fun c10 => ?_)
            · skip
              refine pg_iload_n (pc := 106) hC dX5_bestExcuse_106 4 rfl rfl ?_
              refine pg_istore_n (pc := 107) (vs' := [(3, .int (nI j)), (5, .int 1), (0, .ref (x 11 2)), (1, .int (nI p)), (2, .int mn), (4, .int (nI k))]) hC dX5_bestExcuse_107 rfl (by decide) rfl ?_
              refine pg_iinc (pc := 108) (v := nI (k + 1)) (vs' := [(4, .int (nI (k + 1))), (3, .int (nI j)), (5, .int 1), (0, .ref (x 11 2)), (1, .int (nI p)), (2, .int mn)]) hC dX5_bestExcuse_108 5 rfl (nI_add (k) 1) (by decide) rfl ?_
              refine pg_goto (pc := 111) hC 37 dX5_bestExcuse_111 (by decide) ?_
              refine pg_sub (vs' := [(0, .ref (x 11 2)), (1, .int (nI p)), (2, .int mn), (3, .int (nI j)), (4, .int (nI (k + 1)))]) [3, 4, 5, 1, 0] rfl ?_
              refine pg_vs (vs' := [(0, .ref (x 11 2)), (1, .int (nI p)), (2, .int mn), (3, .int ((sBE z p mn (k + 1)).1)), (4, .int (nI (k + 1)))]) (by rw [show (sBE z p mn (k + 1)).1 = nI j from by simp [sBE, c1, c3, c5, c6, c8, c9, c10, clp, hj1, hj2, hj6]]) ?_
              exact ih4 (k + 1) (by omega) (by omega)
            · skip
              refine pg_iload (pc := 101) hC dX5_bestExcuse_101 5 rfl ?_
              refine pg_goto (pc := 103) hC 107 dX5_bestExcuse_103 (by decide) ?_
              refine pg_istore_n (pc := 107) (vs' := [(3, .int (nI k)), (5, .int 1), (0, .ref (x 11 2)), (1, .int (nI p)), (2, .int mn), (4, .int (nI k))]) hC dX5_bestExcuse_107 rfl (by decide) rfl ?_
              refine pg_iinc (pc := 108) (v := nI (k + 1)) (vs' := [(4, .int (nI (k + 1))), (3, .int (nI k)), (5, .int 1), (0, .ref (x 11 2)), (1, .int (nI p)), (2, .int mn)]) hC dX5_bestExcuse_108 5 rfl (nI_add (k) 1) (by decide) rfl ?_
              refine pg_goto (pc := 111) hC 37 dX5_bestExcuse_111 (by decide) ?_
              refine pg_sub (vs' := [(0, .ref (x 11 2)), (1, .int (nI p)), (2, .int mn), (3, .int (nI k)), (4, .int (nI (k + 1)))]) [3, 4, 5, 1, 0] rfl ?_
              refine pg_vs (vs' := [(0, .ref (x 11 2)), (1, .int (nI p)), (2, .int mn), (3, .int ((sBE z p mn (k + 1)).1)), (4, .int (nI (k + 1)))]) (by rw [show (sBE z p mn (k + 1)).1 = nI k from by simp [sBE, c1, c3, c5, c6, c8, c9, c10, clp, hj1, hj2, hj6]]) ?_
              exact ih4 (k + 1) (by omega) (by omega)
    · skip
      refine pg_iload_n (pc := 17) hC dX5_bestExcuse_17 1 rfl rfl ?_
      refine pg_callSRi (pc := 18) (As := [.int (nI p)]) (rest := []) hC dX5_bestExcuse_18 (cX5_isPupil_c l (nI p)) (va_cwS 1 hC.2.2.2.2.1 gX5_bestExcuse_X5_isPupil rfl rfl rfl (by decide +kernel) ⟨Nat.le_of_ble_eq_true rfl, Nat.le_of_ble_eq_true rfl⟩) rfl rfl (Nat.le_of_ble_eq_true rfl) (Nat.zero_le _) (Nat.zero_le _) ?_
      refine pg_if_eq (pc := 21) hC 29 dX5_bestExcuse_21 (by decide)  (fun c11 => ?_) (fun c11 => ?_)
      · skip
        refine pg_iconst (pc := 29) (v := (-1)) hC dX5_bestExcuse_29 (by decide) ?_
        exact pg_iret (pc := 30) hC dX5_bestExcuse_30 rfl ⟨(by first | exact absurd c1 c11 | exact absurd c11 c1 | (simp [tBestE, c1, c3, c11, clp]; done)), rfl⟩
      · skip
        refine pg_bipush (pc := 24) (v := (-2)) hC dX5_bestExcuse_24 (by decide) ?_
        refine pg_goto (pc := 26) hC 30 dX5_bestExcuse_26 (by decide) ?_
        exact pg_iret (pc := 30) hC dX5_bestExcuse_30 rfl ⟨(by first | exact absurd c1 c11 | exact absurd c11 c1 | (simp [tBestE, c1, c3, c11, clp]; done)), rfl⟩
abbrev rmX5_bestWitness : Room := { frames := 2, cells := 0, slots := 0, locals := 45 }
set_option maxHeartbeats 2000000 in
set_option maxRecDepth 20000 in
theorem cX5_bestWitness_c (l : Launch) {κ : pv_Kt} {L : List Nat} {f : Nat → va_E} {x : Nat → Nat → Nat} {Z : Nat → Nat → Nat → Int32} {g : Nat → Nat → Int32} (hok : pv_ok κ x L f (va_up Z 11 g)) {z : Nat → Nat → Int32} (hR : mR z (g 0)) {n : Nat} (hG : gd z n) (pp ee mn : Int32) : pv_Mi l κ yX5_bestWitness wsX5_bestWitness rmX5_bestWitness L f [.ref (x 11 2), .int pp, .int ee, .int mn] 0 0 (pv_R L f (tBestW z pp ee mn)) := by
  refine pv_startI (cc := cX5_bestWitness) (maxL := 7) (ret := (some .int)) (by decide) rfl (Nat.le_of_ble_eq_true rfl) (fun A0 P0 E0 S0 M0 a0 B0 T0 C0 hC => ?_)
  refine pg_sub (vs' := [(0, .ref (x 11 2)), (1, .int pp), (2, .int ee), (3, .int mn)]) [0, 1, 2, 3] rfl ?_
  have hn12 := hG.n12
  refine pg_iload_n (pc := 0) hC dX5_bestWitness_0 1 rfl rfl ?_
  refine pg_callSRi (pc := 1) (As := [.int pp]) (rest := []) hC dX5_bestWitness_1 (cX5_isPupil_c l pp) (va_cwS 1 hC.2.2.2.2.1 gX5_bestWitness_X5_isPupil rfl rfl rfl (by decide +kernel) ⟨Nat.le_of_ble_eq_true rfl, Nat.le_of_ble_eq_true rfl⟩) rfl rfl (Nat.le_of_ble_eq_true rfl) (Nat.zero_le _) (Nat.zero_le _) ?_
  refine pg_if_eq (pc := 4) hC 15 dX5_bestWitness_4 (by decide)  (fun c1 => ?_) (fun c1 => ?_)
  · skip
    refine pg_iconst (pc := 15) (v := (-1)) hC dX5_bestWitness_15 (by decide) ?_
    exact pg_iret (pc := 16) hC dX5_bestWitness_16 rfl ⟨(by simp [tBestW, c1]), rfl⟩
  · skip
    obtain ⟨p, hp, rfl⟩ := bW_nat (m := 9) rfl (by decide) c1
    have clp : cl (nI p) = p := cl_nI (by omega)
    refine pg_aload_n (pc := 7) hC dX5_bestWitness_7 0 rfl rfl ?_
    refine pg_iload_n (pc := 8) hC dX5_bestWitness_8 2 rfl rfl ?_
    refine pg_callVRi (pc := 9) (As := [.int ee]) (rest := []) hC dX5_bestWitness_9 (cX5_isExcuse_c l hok hR hG ee) (cwV 1 hC.2.2.2.2.1 gX5_bestWitness_X5_isExcuse rfl rfl rfl (by decide +kernel) ⟨Nat.le_of_ble_eq_true rfl, Nat.le_of_ble_eq_true rfl⟩) (ok_mem hok (by decide)) (ok_Mo hok) rfl rfl rfl rfl (Nat.le_of_ble_eq_true rfl) (Nat.zero_le _) (Nat.zero_le _) ?_
    refine pg_if_ne (pc := 12) hC 17 dX5_bestWitness_12 (by decide)  (fun c2 => ?_) (fun c2 => ?_)
    · skip
      obtain ⟨e, he, rfl⟩ := bH_nat hG.n (by omega) c2
      have cle : cl (nI e) = e := cl_nI (by omega)
      refine pg_iload_n (pc := 17) hC dX5_bestWitness_17 3 rfl rfl ?_
      refine pg_iconst (pc := 18) (v := 1) hC dX5_bestWitness_18 (by decide) ?_
      refine pg_bipush (pc := 19) (v := 99) hC dX5_bestWitness_19 (by decide) ?_
      refine pg_callSRi (pc := 21) (As := [.int mn, .int 1, .int 99]) (rest := []) hC dX5_bestWitness_21 (cX5_in_c l mn 1 99) (va_cwS 3 hC.2.2.2.2.1 gX5_bestWitness_X5_in rfl rfl rfl (by decide +kernel) ⟨Nat.le_of_ble_eq_true rfl, Nat.le_of_ble_eq_true rfl⟩) rfl rfl (Nat.le_of_ble_eq_true rfl) (Nat.zero_le _) (Nat.zero_le _) ?_
      refine pg_if_ne (pc := 24) hC 30 dX5_bestWitness_24 (by decide)  (fun c3 => ?_) (fun c3 => ?_)
      · skip
        refine pg_bipush (pc := 30) (v := (-6)) hC dX5_bestWitness_30 (by decide) ?_
        refine pg_istore (pc := 32) (vs' := [(4, .int (-6)), (0, .ref (x 11 2)), (1, .int (nI p)), (2, .int (nI e)), (3, .int mn)]) hC dX5_bestWitness_32 (by decide) rfl ?_
        refine pg_iconst (pc := 34) (v := 0) hC dX5_bestWitness_34 (by decide) ?_
        refine pg_istore (pc := 35) (vs' := [(5, .int 0), (4, .int (-6)), (0, .ref (x 11 2)), (1, .int (nI p)), (2, .int (nI e)), (3, .int mn)]) hC dX5_bestWitness_35 (by decide) rfl ?_
        refine pg_sub (vs' := [(0, .ref (x 11 2)), (1, .int (nI p)), (2, .int (nI e)), (3, .int mn), (4, .int (-6)), (5, .int 0)]) [2, 3, 4, 5, 1, 0] rfl ?_
        refine pg_loop (pc := 37) (σ := Nat) (I := fun q => match q with | k => k ≤ 10) (μ := fun q => match q with | k => 10 - k) (VS := fun q => match q with | k => [(0, .ref (x 11 2)), (1, .int (nI p)), (2, .int (nI e)), (3, .int mn), (4, .int ((sBW z p e mn k).1)), (5, .int (nI k))]) (FF := fun q => match q with | k => f) ?_ (0) (Nat.zero_le _)
        intro q hI ih4
        obtain ⟨k, rfl⟩ : ∃ z, z = q := ⟨_, rfl⟩
        dsimp only at hI ih4 ⊢
        have hI2 := hI
        obtain hk := hI
        refine pg_iload (pc := 37) hC dX5_bestWitness_37 5 rfl ?_
        refine pg_bipush (pc := 39) (v := 10) hC dX5_bestWitness_39 (by decide) ?_
        refine pg_icmp_geN (pc := 41) hC 111 dX5_bestWitness_41 (by decide) (k) (10) rfl rfl (by omega) (by omega) (fun c5 => ?_) (fun c5 => ?_)
        · skip
          refine pg_iload (pc := 111) hC dX5_bestWitness_111 4 rfl ?_
          exact pg_iret (pc := 113) hC dX5_bestWitness_113 rfl ⟨(by rw [show k = 10 by omega]; simp [tBestW, c1, c2, c3, clp, cle]), rfl⟩
        · skip
          refine pg_iload (pc := 44) hC dX5_bestWitness_44 5 rfl ?_
          refine pg_iload_n (pc := 46) hC dX5_bestWitness_46 1 rfl rfl ?_
          refine pg_icmp_eqN (pc := 47) hC 64 dX5_bestWitness_47 (by decide) (k) (p) rfl rfl (by omega) (by omega) (fun c6 => ?_) (fun c6 => ?_)
          · skip
            refine pg_iconst (pc := 64) (v := 0) hC dX5_bestWitness_64 (by decide) ?_
            refine pg_istore (pc := 65) (vs' := [(6, .int 0), (0, .ref (x 11 2)), (1, .int (nI p)), (2, .int (nI e)), (3, .int mn), (4, .int ((sBW z p e mn k).1)), (5, .int (nI k))]) hC dX5_bestWitness_65 (by decide) rfl ?_
            refine pg_iload (pc := 67) hC dX5_bestWitness_67 0 rfl ?_
            refine pg_if_eq (pc := 69) hC 101 dX5_bestWitness_69 (by decide)  (fun c7 => ?_) (fun c7 => False.elim (absurd (by decide) c7))
            refine pg_iload (pc := 101) hC dX5_bestWitness_101 5 rfl ?_
            refine pg_istore (pc := 103) (vs' := [(4, .int ((sBW z p e mn k).1)), (6, .int 0), (0, .ref (x 11 2)), (1, .int (nI p)), (2, .int (nI e)), (3, .int mn), (5, .int (nI k))]) hC dX5_bestWitness_103 (by decide) rfl ?_
            refine pg_iinc (pc := 105) (v := nI (k + 1)) (vs' := [(5, .int (nI (k + 1))), (4, .int ((sBW z p e mn k).1)), (6, .int 0), (0, .ref (x 11 2)), (1, .int (nI p)), (2, .int (nI e)), (3, .int mn)]) hC dX5_bestWitness_105 6 rfl (nI_add (k) 1) (by decide) rfl ?_
            refine pg_goto (pc := 108) hC 37 dX5_bestWitness_108 (by decide) ?_
            refine pg_sub (vs' := [(0, .ref (x 11 2)), (1, .int (nI p)), (2, .int (nI e)), (3, .int mn), (4, .int ((sBW z p e mn k).1)), (5, .int (nI (k + 1)))]) [3, 4, 5, 6, 1, 0] rfl ?_
            refine pg_vs (vs' := [(0, .ref (x 11 2)), (1, .int (nI p)), (2, .int (nI e)), (3, .int mn), (4, .int ((sBW z p e mn (k + 1)).1)), (5, .int (nI (k + 1)))]) (by rw [show (sBW z p e mn (k + 1)).1 = (sBW z p e mn k).1 from by simp [sBW, c1, c2, c3, c5, c6, c7, clp, cle]]) ?_
            exact ih4 (k + 1) (by omega) (by omega)
          · skip
            refine pg_aload_n (pc := 50) hC dX5_bestWitness_50 0 rfl rfl ?_
            refine pg_iload (pc := 51) hC dX5_bestWitness_51 5 rfl ?_
            refine pg_iconst (pc := 53) (v := 0) hC dX5_bestWitness_53 (by decide) ?_
            refine pg_callVRi (pc := 54) (As := [.int (nI k), .int 0]) (rest := []) hC dX5_bestWitness_54 (cX5_of_c l hok (k) (0) (by omega) (by omega)) (cwV 2 hC.2.2.2.2.1 gX5_bestWitness_X5_of rfl rfl rfl (by decide +kernel) ⟨Nat.le_of_ble_eq_true rfl, Nat.le_of_ble_eq_true rfl⟩) (ok_mem hok (by decide)) (ok_Mo hok) rfl rfl rfl rfl (Nat.le_of_ble_eq_true rfl) (Nat.zero_le _) (Nat.zero_le _) ?_
            refine pg_top (x' := z 6 k) (hR 6 k (show k < 10 by omega)) ?_
            refine pg_if_le (pc := 57) hC 64 dX5_bestWitness_57 (by decide)  (fun c8 => ?_) (fun c8 => ?_)
            · skip
              refine pg_iconst (pc := 64) (v := 0) hC dX5_bestWitness_64 (by decide) ?_
              refine pg_istore (pc := 65) (vs' := [(6, .int 0), (0, .ref (x 11 2)), (1, .int (nI p)), (2, .int (nI e)), (3, .int mn), (4, .int ((sBW z p e mn k).1)), (5, .int (nI k))]) hC dX5_bestWitness_65 (by decide) rfl ?_
              refine pg_iload (pc := 67) hC dX5_bestWitness_67 0 rfl ?_
              refine pg_if_eq (pc := 69) hC 101 dX5_bestWitness_69 (by decide)  (fun c9 => ?_) (fun c9 => False.elim (absurd (by decide) c9))
              refine pg_iload (pc := 101) hC dX5_bestWitness_101 5 rfl ?_
              refine pg_istore (pc := 103) (vs' := [(4, .int ((sBW z p e mn k).1)), (6, .int 0), (0, .ref (x 11 2)), (1, .int (nI p)), (2, .int (nI e)), (3, .int mn), (5, .int (nI k))]) hC dX5_bestWitness_103 (by decide) rfl ?_
              refine pg_iinc (pc := 105) (v := nI (k + 1)) (vs' := [(5, .int (nI (k + 1))), (4, .int ((sBW z p e mn k).1)), (6, .int 0), (0, .ref (x 11 2)), (1, .int (nI p)), (2, .int (nI e)), (3, .int mn)]) hC dX5_bestWitness_105 6 rfl (nI_add (k) 1) (by decide) rfl ?_
              refine pg_goto (pc := 108) hC 37 dX5_bestWitness_108 (by decide) ?_
              refine pg_sub (vs' := [(0, .ref (x 11 2)), (1, .int (nI p)), (2, .int (nI e)), (3, .int mn), (4, .int ((sBW z p e mn k).1)), (5, .int (nI (k + 1)))]) [3, 4, 5, 6, 1, 0] rfl ?_
              refine pg_vs (vs' := [(0, .ref (x 11 2)), (1, .int (nI p)), (2, .int (nI e)), (3, .int mn), (4, .int ((sBW z p e mn (k + 1)).1)), (5, .int (nI (k + 1)))]) (by rw [show (sBW z p e mn (k + 1)).1 = (sBW z p e mn k).1 from by simp [sBW, c1, c2, c3, c5, c6, c8, c9, clp, cle]]) ?_
              exact ih4 (k + 1) (by omega) (by omega)
            · skip
              refine pg_iconst (pc := 60) (v := 1) hC dX5_bestWitness_60 (by decide) ?_
              refine pg_goto (pc := 61) hC 65 dX5_bestWitness_61 (by decide) ?_
              refine pg_istore (pc := 65) (vs' := [(6, .int 1), (0, .ref (x 11 2)), (1, .int (nI p)), (2, .int (nI e)), (3, .int mn), (4, .int ((sBW z p e mn k).1)), (5, .int (nI k))]) hC dX5_bestWitness_65 (by decide) rfl ?_
              refine pg_iload (pc := 67) hC dX5_bestWitness_67 0 rfl ?_
              refine pg_if_eq (pc := 69) hC 101 dX5_bestWitness_69 (by decide)  (fun c10 => False.elim (absurd c10 (by decide))) (fun c10 => ?_)
              refine pg_iload (pc := 72) hC dX5_bestWitness_72 5 rfl ?_
              refine pg_bipush (pc := 74) (v := (-6)) hC dX5_bestWitness_74 (by decide) ?_
              refine pg_icmp_eq (pc := 76) hC 96 dX5_bestWitness_76 (by decide)  (fun c11 => ?_) (fun c11 => ?_)
              · skip
                refine pg_iload (pc := 96) hC dX5_bestWitness_96 6 rfl ?_
                refine pg_goto (pc := 98) hC 103 dX5_bestWitness_98 (by decide) ?_
                refine pg_istore (pc := 103) (vs' := [(4, .int (nI k)), (6, .int 1), (0, .ref (x 11 2)), (1, .int (nI p)), (2, .int (nI e)), (3, .int mn), (5, .int (nI k))]) hC dX5_bestWitness_103 (by decide) rfl ?_
                refine pg_iinc (pc := 105) (v := nI (k + 1)) (vs' := [(5, .int (nI (k + 1))), (4, .int (nI k)), (6, .int 1), (0, .ref (x 11 2)), (1, .int (nI p)), (2, .int (nI e)), (3, .int mn)]) hC dX5_bestWitness_105 6 rfl (nI_add (k) 1) (by decide) rfl ?_
                refine pg_goto (pc := 108) hC 37 dX5_bestWitness_108 (by decide) ?_
                refine pg_sub (vs' := [(0, .ref (x 11 2)), (1, .int (nI p)), (2, .int (nI e)), (3, .int mn), (4, .int (nI k)), (5, .int (nI (k + 1)))]) [3, 4, 5, 6, 1, 0] rfl ?_
                refine pg_vs (vs' := [(0, .ref (x 11 2)), (1, .int (nI p)), (2, .int (nI e)), (3, .int mn), (4, .int ((sBW z p e mn (k + 1)).1)), (5, .int (nI (k + 1)))]) (by rw [show (sBW z p e mn (k + 1)).1 = nI k from by simp [sBW, c1, c2, c3, c5, c6, c8, c10, c11, clp, cle]]) ?_
                exact ih4 (k + 1) (by omega) (by omega)
              · skip
                obtain ⟨j, hj, hj1, hj2⟩ := (sBW_inv z p e mn k).resolve_left c11
                refine pg_vs (vs' := [(6, .int 1), (0, .ref (x 11 2)), (1, .int (nI p)), (2, .int (nI e)), (3, .int mn), (4, .int (nI j)), (5, .int (nI k))]) (by rw [hj1]) ?_
                have hj6 : ¬ nI j = -6 := by rw [← hj1]; exact c11
                refine pg_aload_n (pc := 79) hC dX5_bestWitness_79 1 rfl rfl ?_
                refine pg_iload (pc := 80) hC dX5_bestWitness_80 6 rfl ?_
                refine pg_iload_n (pc := 82) hC dX5_bestWitness_82 2 rfl rfl ?_
                refine pg_callVRi (pc := 83) (As := [.int (nI k), .int (nI p)]) (rest := []) hC dX5_bestWitness_83 (cX5_standsBy_c l hok hR hG (nI k) (Or.inr ⟨k, by omega, rfl⟩) (p) (by omega)) (cwV 2 hC.2.2.2.2.1 gX5_bestWitness_X5_standsBy rfl rfl rfl (by decide +kernel) ⟨Nat.le_of_ble_eq_true rfl, Nat.le_of_ble_eq_true rfl⟩) (ok_mem hok (by decide)) (ok_Mo hok) rfl rfl rfl rfl (Nat.le_of_ble_eq_true rfl) (Nat.zero_le _) (Nat.zero_le _) ?_
                refine pg_aload_n (pc := 86) hC dX5_bestWitness_86 1 rfl rfl ?_
                refine pg_iload (pc := 87) hC dX5_bestWitness_87 5 rfl ?_
                refine pg_iload_n (pc := 89) hC dX5_bestWitness_89 2 rfl rfl ?_
                refine pg_callVRi (pc := 90) (As := [.int (nI j), .int (nI p)]) (rest := [.int (sSt z (nI k) (p))]) hC dX5_bestWitness_90 (cX5_standsBy_c l hok hR hG (nI j) (Or.inr ⟨j, by omega, rfl⟩) (p) (by omega)) (cwV 2 hC.2.2.2.2.1 gX5_bestWitness_X5_standsBy rfl rfl rfl (by decide +kernel) ⟨Nat.le_of_ble_eq_true rfl, Nat.le_of_ble_eq_true rfl⟩) (ok_mem hok (by decide)) (ok_Mo hok) rfl rfl rfl rfl (Nat.le_of_ble_eq_true rfl) (Nat.zero_le _) (Nat.zero_le _) ?_
                refine pg_icmp_le (pc := 93) hC 101 dX5_bestWitness_93 (by decide)  (fun c12 => ?_) (fun c12 => ?_)
                · skip
                  have q1 := (wt_cmp hG (show p < 10 by omega) (show e < 12 by omega) c3 (show k < 10 by omega) (show j < 10 by omega)).mpr c12
                  refine pg_iload (pc := 101) hC dX5_bestWitness_101 5 rfl ?_
                  refine pg_istore (pc := 103) (vs' := [(4, .int (nI j)), (6, .int 1), (0, .ref (x 11 2)), (1, .int (nI p)), (2, .int (nI e)), (3, .int mn), (5, .int (nI k))]) hC dX5_bestWitness_103 (by decide) rfl ?_
                  refine pg_iinc (pc := 105) (v := nI (k + 1)) (vs' := [(5, .int (nI (k + 1))), (4, .int (nI j)), (6, .int 1), (0, .ref (x 11 2)), (1, .int (nI p)), (2, .int (nI e)), (3, .int mn)]) hC dX5_bestWitness_105 6 rfl (nI_add (k) 1) (by decide) rfl ?_
                  refine pg_goto (pc := 108) hC 37 dX5_bestWitness_108 (by decide) ?_
                  refine pg_sub (vs' := [(0, .ref (x 11 2)), (1, .int (nI p)), (2, .int (nI e)), (3, .int mn), (4, .int (nI j)), (5, .int (nI (k + 1)))]) [3, 4, 5, 6, 1, 0] rfl ?_
                  refine pg_vs (vs' := [(0, .ref (x 11 2)), (1, .int (nI p)), (2, .int (nI e)), (3, .int mn), (4, .int ((sBW z p e mn (k + 1)).1)), (5, .int (nI (k + 1)))]) (by rw [show (sBW z p e mn (k + 1)).1 = nI j from by simp [sBW, c1, c2, c3, c5, c6, c8, c10, c11, q1, clp, cle, hj1, hj2, hj6]]) ?_
                  exact ih4 (k + 1) (by omega) (by omega)
                · skip
                  have q1 : ¬ sWt z p e (nI k) mn ≤ sWt z p e (nI j) mn := fun q => c12 ((wt_cmp hG (show p < 10 by omega) (show e < 12 by omega) c3 (show k < 10 by omega) (show j < 10 by omega)).mp q)
                  refine pg_iload (pc := 96) hC dX5_bestWitness_96 6 rfl ?_
                  refine pg_goto (pc := 98) hC 103 dX5_bestWitness_98 (by decide) ?_
                  refine pg_istore (pc := 103) (vs' := [(4, .int (nI k)), (6, .int 1), (0, .ref (x 11 2)), (1, .int (nI p)), (2, .int (nI e)), (3, .int mn), (5, .int (nI k))]) hC dX5_bestWitness_103 (by decide) rfl ?_
                  refine pg_iinc (pc := 105) (v := nI (k + 1)) (vs' := [(5, .int (nI (k + 1))), (4, .int (nI k)), (6, .int 1), (0, .ref (x 11 2)), (1, .int (nI p)), (2, .int (nI e)), (3, .int mn)]) hC dX5_bestWitness_105 6 rfl (nI_add (k) 1) (by decide) rfl ?_
                  refine pg_goto (pc := 108) hC 37 dX5_bestWitness_108 (by decide) ?_
                  refine pg_sub (vs' := [(0, .ref (x 11 2)), (1, .int (nI p)), (2, .int (nI e)), (3, .int mn), (4, .int (nI k)), (5, .int (nI (k + 1)))]) [3, 4, 5, 6, 1, 0] rfl ?_
                  refine pg_vs (vs' := [(0, .ref (x 11 2)), (1, .int (nI p)), (2, .int (nI e)), (3, .int mn), (4, .int ((sBW z p e mn (k + 1)).1)), (5, .int (nI (k + 1)))]) (by rw [show (sBW z p e mn (k + 1)).1 = nI k from by simp [sBW, c1, c2, c3, c5, c6, c8, c10, c11, q1, clp, cle, hj1, hj2, hj6]]) ?_
                  exact ih4 (k + 1) (by omega) (by omega)
      · skip
        refine pg_bipush (pc := 27) (v := (-2)) hC dX5_bestWitness_27 (by decide) ?_
        exact pg_iret (pc := 29) hC dX5_bestWitness_29 rfl ⟨(by simp [tBestW, c1, c2, c3, clp, cle]), rfl⟩
    · skip
      refine pg_iconst (pc := 15) (v := (-1)) hC dX5_bestWitness_15 (by decide) ?_
      exact pg_iret (pc := 16) hC dX5_bestWitness_16 rfl ⟨(by simp [tBestW, c1, c2, clp]), rfl⟩
abbrev rmX5_mostMinutes : Room := { frames := 5, cells := 0, slots := 0, locals := 116 }
set_option maxHeartbeats 2000000 in
set_option maxRecDepth 20000 in
theorem cX5_mostMinutes_c (l : Launch) {κ : pv_Kt} {L : List Nat} {f : Nat → va_E} {x : Nat → Nat → Nat} {Z : Nat → Nat → Nat → Int32} {g : Nat → Nat → Int32} (hok : pv_ok κ x L f (va_up Z 11 g)) {z : Nat → Nat → Int32} (hR : mR z (g 0)) {n : Nat} (hG : gd z n) (pp ee : Int32) : pv_Mi l κ yX5_mostMinutes wsX5_mostMinutes rmX5_mostMinutes L f [.ref (x 11 2), .int pp, .int ee] 0 0 (pv_R L f (tMost z pp ee)) := by
  refine pv_startI (cc := cX5_mostMinutes) (maxL := 4) (ret := (some .int)) (by decide) rfl (Nat.le_of_ble_eq_true rfl) (fun A0 P0 E0 S0 M0 a0 B0 T0 C0 hC => ?_)
  refine pg_sub (vs' := [(0, .ref (x 11 2)), (1, .int pp), (2, .int ee)]) [0, 1, 2] rfl ?_
  have hn12 := hG.n12
  refine pg_iload_n (pc := 0) hC dX5_mostMinutes_0 1 rfl rfl ?_
  refine pg_callSRi (pc := 1) (As := [.int pp]) (rest := []) hC dX5_mostMinutes_1 (cX5_isPupil_c l pp) (va_cwS 1 hC.2.2.2.2.1 gX5_mostMinutes_X5_isPupil rfl rfl rfl (by decide +kernel) ⟨Nat.le_of_ble_eq_true rfl, Nat.le_of_ble_eq_true rfl⟩) rfl rfl (Nat.le_of_ble_eq_true rfl) (Nat.zero_le _) (Nat.zero_le _) ?_
  refine pg_if_eq (pc := 4) hC 15 dX5_mostMinutes_4 (by decide)  (fun c1 => ?_) (fun c1 => ?_)
  · skip
    refine pg_iconst (pc := 15) (v := (-1)) hC dX5_mostMinutes_15 (by decide) ?_
    exact pg_iret (pc := 16) hC dX5_mostMinutes_16 rfl ⟨(by simp [tMost, c1]), rfl⟩
  · skip
    obtain ⟨p, hp, rfl⟩ := bW_nat (m := 9) rfl (by decide) c1
    have clp : cl (nI p) = p := cl_nI (by omega)
    refine pg_aload_n (pc := 7) hC dX5_mostMinutes_7 0 rfl rfl ?_
    refine pg_iload_n (pc := 8) hC dX5_mostMinutes_8 2 rfl rfl ?_
    refine pg_callVRi (pc := 9) (As := [.int ee]) (rest := []) hC dX5_mostMinutes_9 (cX5_isExcuse_c l hok hR hG ee) (cwV 1 hC.2.2.2.2.1 gX5_mostMinutes_X5_isExcuse rfl rfl rfl (by decide +kernel) ⟨Nat.le_of_ble_eq_true rfl, Nat.le_of_ble_eq_true rfl⟩) (ok_mem hok (by decide)) (ok_Mo hok) rfl rfl rfl rfl (Nat.le_of_ble_eq_true rfl) (Nat.zero_le _) (Nat.zero_le _) ?_
    refine pg_if_ne (pc := 12) hC 17 dX5_mostMinutes_12 (by decide)  (fun c2 => ?_) (fun c2 => ?_)
    · skip
      obtain ⟨e, he, rfl⟩ := bH_nat hG.n (by omega) c2
      have cle : cl (nI e) = e := cl_nI (by omega)
      refine pg_bipush (pc := 17) (v := 99) hC dX5_mostMinutes_17 (by decide) ?_
      refine pg_istore_n (pc := 19) (vs' := [(3, .int 99), (0, .ref (x 11 2)), (1, .int (nI p)), (2, .int (nI e))]) hC dX5_mostMinutes_19 rfl (by decide) rfl ?_
      refine pg_sub (vs' := [(0, .ref (x 11 2)), (1, .int (nI p)), (2, .int (nI e)), (3, .int 99)]) [1, 2, 3, 0] rfl ?_
      refine pg_loop (pc := 20) (σ := Nat) (I := fun q => match q with | k => k ≤ 99 ∧ sMM z p e 99 = sMM z p e k) (μ := fun q => match q with | k => k) (VS := fun q => match q with | k => [(0, .ref (x 11 2)), (1, .int (nI p)), (2, .int (nI e)), (3, .int (nI k))]) (FF := fun q => match q with | k => f) ?_ (99) ⟨by decide, rfl⟩
      intro q hI ih3
      obtain ⟨k, rfl⟩ : ∃ z, z = q := ⟨_, rfl⟩
      dsimp only at hI ih3 ⊢
      have hI2 := hI
      obtain ⟨hk, hF⟩ := hI
      refine pg_iload_n (pc := 20) hC dX5_mostMinutes_20 3 rfl rfl ?_
      refine pg_if_le (pc := 21) hC 42 dX5_mostMinutes_21 (by decide)  (fun c4 => ?_) (fun c4 => ?_)
      · skip
        obtain rfl : k = 0 := (nI_le0 (by omega)).mp c4
        refine pg_vs (vs' := [(0, .ref (x 11 2)), (1, .int (nI p)), (2, .int (nI e)), (3, .int 0)]) rfl ?_
        refine pg_iload_n (pc := 42) hC dX5_mostMinutes_42 3 rfl rfl ?_
        refine pg_if_ne (pc := 43) hC 51 dX5_mostMinutes_43 (by decide)  (fun c5 => False.elim (absurd c5 (by decide))) (fun c5 => ?_)
        refine pg_bipush (pc := 46) (v := (-6)) hC dX5_mostMinutes_46 (by decide) ?_
        refine pg_goto (pc := 48) hC 52 dX5_mostMinutes_48 (by decide) ?_
        exact pg_iret (pc := 52) hC dX5_mostMinutes_52 rfl ⟨(by simp only [tMost, c1, c2, clp, cle, if_true, if_false, not_false_eq_true]; rw [hF]; rfl), rfl⟩
      · skip
        obtain ⟨j, rfl⟩ : ∃ j, k = j + 1 := by rcases k with _ | j; (exact absurd (show nI 0 ≤ 0 by decide) c4); exact ⟨j, rfl⟩
        refine pg_aload_n (pc := 24) hC dX5_mostMinutes_24 0 rfl rfl ?_
        refine pg_iload_n (pc := 25) hC dX5_mostMinutes_25 1 rfl rfl ?_
        refine pg_iload_n (pc := 26) hC dX5_mostMinutes_26 2 rfl rfl ?_
        refine pg_bipush (pc := 27) (v := (-6)) hC dX5_mostMinutes_27 (by decide) ?_
        refine pg_iload_n (pc := 29) hC dX5_mostMinutes_29 3 rfl rfl ?_
        refine pg_callVRi (pc := 30) (As := [.int (nI p), .int (nI e), .int (-6), .int (nI (j + 1))]) (rest := []) hC dX5_mostMinutes_30 (cX5_reason_c l hok hR hG (p) (e) (by omega) (by omega) (-6) (Or.inl rfl) (nI (j + 1))) (cwV 4 hC.2.2.2.2.1 gX5_mostMinutes_X5_reason rfl rfl rfl (by decide +kernel) ⟨Nat.le_of_ble_eq_true rfl, Nat.le_of_ble_eq_true rfl⟩) (ok_mem hok (by decide)) (ok_Mo hok) rfl rfl rfl rfl (Nat.le_of_ble_eq_true rfl) (Nat.zero_le _) (Nat.zero_le _) ?_
        refine pg_if_le (pc := 33) hC 42 dX5_mostMinutes_33 (by decide)  (fun c6 => ?_) (fun c6 => ?_)
        · skip
          have q0 := sReason_le c6
          refine pg_iload_n (pc := 42) hC dX5_mostMinutes_42 3 rfl rfl ?_
          refine pg_if_ne (pc := 43) hC 51 dX5_mostMinutes_43 (by decide)  (fun c7 => ?_) (fun c7 => ?_)
          · skip
            refine pg_iload_n (pc := 51) hC dX5_mostMinutes_51 3 rfl rfl ?_
            exact pg_iret (pc := 52) hC dX5_mostMinutes_52 rfl ⟨(by simp only [tMost, c1, c2, clp, cle, if_true, if_false, not_false_eq_true]; rw [hF]; simp only [sMM, q0, if_true]), rfl⟩
          · skip
            exact absurd c7 (nI_ne0 (by omega) (by omega))
        · skip
          have q0 := sReason_gt c6
          refine pg_iinc (pc := 36) (v := nI j) (vs' := [(3, .int (nI j)), (0, .ref (x 11 2)), (1, .int (nI p)), (2, .int (nI e))]) hC dX5_mostMinutes_36 3 rfl (pk_m1 (j)) (by decide) rfl ?_
          refine pg_goto (pc := 39) hC 20 dX5_mostMinutes_39 (by decide) ?_
          refine pg_sub (vs' := [(0, .ref (x 11 2)), (1, .int (nI p)), (2, .int (nI e)), (3, .int (nI j))]) [1, 2, 3, 0] rfl ?_
          exact ih3 (j) ⟨by omega, hF.trans (by simp only [sMM, q0, if_false])⟩ (by omega)
    · skip
      refine pg_iconst (pc := 15) (v := (-1)) hC dX5_mostMinutes_15 (by decide) ?_
      exact pg_iret (pc := 16) hC dX5_mostMinutes_16 rfl ⟨(by simp [tMost, c1, c2, clp]), rfl⟩
