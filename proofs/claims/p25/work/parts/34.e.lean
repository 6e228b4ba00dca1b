abbrev rmX2_canEnd : Room := { frames := 0, cells := 0, slots := 0, locals := 0 }
theorem miX2_canEnd_X2 : ∀ w ∈ wsX20, w ∈ wsX2_canEnd := fun _ h => List.mem_cons_of_mem _ (List.mem_append_right _ h)
set_option maxHeartbeats 2000000 in
set_option maxRecDepth 20000 in
theorem cX2_canEnd_c (l : Launch) {κ : pv_Kt} {L : List Nat} {f : Nat → va_E} {x : Nat → Nat → Nat} {Z : Nat → Nat → Nat → Int32} {z : Nat → Nat → Int32} (hok : pv_ok κ x L f (va_up Z 10 z))  : pv_Mi l κ yX2_canEnd wsX2_canEnd rmX2_canEnd L f [.ref (x 10 0)] 0 0 (pv_R L f (rEnd z)) := by
  refine pv_startI (cc := cX2_canEnd) (maxL := 1) (ret := (some .boolean)) (by decide) rfl (Nat.le_of_ble_eq_true rfl) (fun A0 P0 E0 S0 M0 a0 B0 T0 C0 hC => ?_)
  refine pg_sub (vs' := [(0, .ref (x 10 0))]) [0] rfl ?_
  refine pg_aload_n (pc := 0) hC dX2_canEnd_0 0 rfl rfl ?_
  refine pgR_geti (pc := 1) (v := z 0 0) hC dX2_canEnd_1 0 (List.mem_of_getElem? (i := 1) rfl) miX2_canEnd_X2 hok (by decide) rfl ?_
  refine pg_iconst (pc := 4) (v := 4) hC dX2_canEnd_4 (by decide) ?_
  refine pg_icmp_eq (pc := 5) hC 25 dX2_canEnd_5 (by decide)  (fun c1 => ?_) (fun c1 => ?_)
  · skip
    refine pg_iconst (pc := 25) (v := 1) hC dX2_canEnd_25 (by decide) ?_
    refine pg_goto (pc := 26) hC 30 dX2_canEnd_26 (by decide) ?_
    exact pg_zret (pc := 30) hC dX2_canEnd_30 rfl rfl ⟨(by first | rfl | (unfold rEnd; simp only [c1, if_true, if_false, ite_true, ite_false]; done) | (simp [rEnd, c1]; done)), rfl⟩
  · skip
    refine pg_aload_n (pc := 8) hC dX2_canEnd_8 0 rfl rfl ?_
    refine pgR_geti (pc := 9) (v := z 0 0) hC dX2_canEnd_9 0 (List.mem_of_getElem? (i := 1) rfl) miX2_canEnd_X2 hok (by decide) rfl ?_
    refine pg_iconst (pc := 12) (v := 5) hC dX2_canEnd_12 (by decide) ?_
    refine pg_icmp_eq (pc := 13) hC 25 dX2_canEnd_13 (by decide)  (fun c2 => ?_) (fun c2 => ?_)
    · skip
      refine pg_iconst (pc := 25) (v := 1) hC dX2_canEnd_25 (by decide) ?_
      refine pg_goto (pc := 26) hC 30 dX2_canEnd_26 (by decide) ?_
      exact pg_zret (pc := 30) hC dX2_canEnd_30 rfl rfl ⟨(by first | rfl | (unfold rEnd; simp only [c1, c2, if_true, if_false, ite_true, ite_false]; done) | (simp [rEnd, c1, c2]; done)), rfl⟩
    · skip
      refine pg_aload_n (pc := 16) hC dX2_canEnd_16 0 rfl rfl ?_
      refine pgR_geti (pc := 17) (v := z 0 0) hC dX2_canEnd_17 0 (List.mem_of_getElem? (i := 1) rfl) miX2_canEnd_X2 hok (by decide) rfl ?_
      refine pg_bipush (pc := 20) (v := 7) hC dX2_canEnd_20 (by decide) ?_
      refine pg_icmp_ne (pc := 22) hC 29 dX2_canEnd_22 (by decide)  (fun c3 => ?_) (fun c3 => ?_)
      · skip
        refine pg_iconst (pc := 29) (v := 0) hC dX2_canEnd_29 (by decide) ?_
        exact pg_zret (pc := 30) hC dX2_canEnd_30 rfl rfl ⟨(by first | rfl | (unfold rEnd; simp only [c1, c2, c3, if_true, if_false, ite_true, ite_false]; done) | (simp [rEnd, c1, c2, c3]; done)), rfl⟩
      · skip
        refine pg_iconst (pc := 25) (v := 1) hC dX2_canEnd_25 (by decide) ?_
        refine pg_goto (pc := 26) hC 30 dX2_canEnd_26 (by decide) ?_
        exact pg_zret (pc := 30) hC dX2_canEnd_30 rfl rfl ⟨(by first | rfl | (unfold rEnd; simp only [c1, c2, c3, if_true, if_false, ite_true, ite_false]; done) | (simp [rEnd, c1, c2, c3]; done)), rfl⟩
abbrev rmX0_keep : Room := { frames := 3, cells := 0, slots := 0, locals := 82 }
theorem miX0_keep_X0 : ∀ w ∈ wsX00, w ∈ wsX0_keep := fun _ h => List.mem_cons_of_mem _ (List.mem_append_left _ (List.mem_append_right _ h))
set_option maxHeartbeats 2000000 in
set_option maxRecDepth 20000 in
theorem cX0_keep_c (l : Launch) {κ : pv_Kt} {L : List Nat} {f : Nat → va_E} {x : Nat → Nat → Nat} {Z : Nat → Nat → Nat → Int32} (hok : pv_ok κ x L f Z) (nx kp : Nat) (hnx : Z 12 1 0 = nI nx) (hnx6 : nx < 6) (hkp : Z 12 2 0 = nI kp) (hkp6 : kp ≤ 6) : pv_Mv l κ yX0_keep wsX0_keep rmX0_keep L f [.ref (x 12 0), .ref (x 0 1)] 0 0 (pv_Wv κ x L (sKeep Z nx kp)) := by
  refine pv_startV (cc := cX0_keep) (maxL := 2) (ret := none) (by decide) rfl (Nat.le_of_ble_eq_true rfl) (fun A0 P0 E0 S0 M0 a0 B0 T0 C0 hC => ?_)
  refine pg_sub (vs' := [(0, .ref (x 12 0)), (1, .ref (x 0 1))]) [0, 1] rfl ?_
  refine pg_aload_n (pc := 0) hC dX0_keep_0 0 rfl rfl ?_
  refine pgH_geta (pc := 1) hC dX0_keep_1 (List.mem_of_getElem? (i := 1) rfl) miX0_keep_X0 hok ?_
  refine pg_aload_n (pc := 4) hC dX0_keep_4 0 rfl rfl ?_
  refine pgH_geti (pc := 5) (v := nI nx) hC dX0_keep_5 1 (List.mem_of_getElem? (i := 2) rfl) miX0_keep_X0 (ogI hok 12) (by decide) hnx ?_
  refine pgH_aldq (pc := 8) hC dX0_keep_8 (nx) hok rfl (by omega) ?_
  refine pg_aload_n (pc := 9) hC dX0_keep_9 1 rfl rfl ?_
  have hok1 := ogI hok (1 + nx)
  refine pg_callVWv (pc := 10) (As := [.ref (x 0 1)]) (rest := []) hC dX0_keep_10 (cX3_become_c l (by omega) (by decide) (by omega) hok1) (cwV 1 hC.2.2.2.2.1 gX0_keep_X3_become rfl rfl rfl (by decide +kernel) ⟨Nat.le_of_ble_eq_true rfl, Nat.le_of_ble_eq_true rfl⟩) (ok_Sm hok1 (by omega) 1 (by decide)) (og_So hok1 (by omega)) rfl rfl rfl rfl (Nat.le_of_ble_eq_true rfl) (Nat.zero_le _) (Nat.zero_le _) (fun f1 hokw1 => ?_)
  have hok2 : pv_ok κ x L f1 (va_up (va_up Z (1 + nx) (sBec (Z (1 + nx)) (Z 0))) 12 (Z 12)) := by have q := ogI hokw1 12; rw [show (va_up Z (1 + nx) (sBec (Z (1 + nx)) (Z 0))) 12 = Z 12 from va_up_ne _ _ (by omega)] at q; exact q
  refine pg_aload_n (pc := 13) hC dX0_keep_13 0 rfl rfl ?_
  refine pg_aload_n (pc := 14) hC dX0_keep_14 0 rfl rfl ?_
  refine pgH_geti (pc := 15) (v := nI nx) hC dX0_keep_15 1 (List.mem_of_getElem? (i := 2) rfl) miX0_keep_X0 hok2 (by decide) hnx ?_
  refine pg_iconst (pc := 18) (v := 1) hC dX0_keep_18 (by decide) ?_
  refine pg_iadd (pc := 19) (v := nI (nx + 1)) hC dX0_keep_19 (nI_add (nx) (1)) ?_
  refine pg_bipush (pc := 20) (v := 6) hC dX0_keep_20 (by decide) ?_
  refine pg_irem (pc := 22) (v := nI ((nx + 1) % 6)) hC dX0_keep_22 (by decide) (pk_rem (a := nx + 1) (d := 6) (by omega) (by omega) (by omega)) ?_
  refine pgH_puti (pc := 23) hC dX0_keep_23 1 (List.mem_of_getElem? (i := 2) rfl) miX0_keep_X0 hok2 (by decide) (fun f2 hokw2 => ?_)
  refine pg_aload_n (pc := 26) hC dX0_keep_26 0 rfl rfl ?_
  refine pg_bipush (pc := 27) (v := 6) hC dX0_keep_27 (by decide) ?_
  refine pg_aload_n (pc := 29) hC dX0_keep_29 0 rfl rfl ?_
  refine pgH_geti (pc := 30) (v := nI kp) hC dX0_keep_30 2 (List.mem_of_getElem? (i := 3) rfl) miX0_keep_X0 hokw2 (by decide) hkp ?_
  refine pg_iconst (pc := 33) (v := 1) hC dX0_keep_33 (by decide) ?_
  refine pg_iadd (pc := 34) (v := nI (kp + 1)) hC dX0_keep_34 (nI_add (kp) (1)) ?_
  refine pg_mmin (pc := 35) hC dX0_keep_35 (List.mem_of_getElem? (i := 4) rfl) (List.mem_of_getElem? (i := 5) rfl) (List.mem_of_getElem? (i := 6) rfl) (List.mem_of_getElem? (i := 7) rfl) (Nat.le_of_ble_eq_true rfl) (Nat.le_of_ble_eq_true rfl) (Nat.zero_le _) (Nat.zero_le _) ?_
  refine pg_top (pc := 38) (x' := nI (min 6 (kp + 1))) (nI_min6 (by omega)) ?_
  refine pgH_puti (pc := 38) hC dX0_keep_38 2 (List.mem_of_getElem? (i := 3) rfl) miX0_keep_X0 hokw2 (by decide) (fun f3 hokw3 => ?_)
  exact pg_vret (pc := 41) hC dX0_keep_41 rfl ⟨rfl, hokw3⟩
abbrev rmX0_takeBack : Room := { frames := 3, cells := 0, slots := 0, locals := 82 }
theorem miX0_takeBack_X0 : ∀ w ∈ wsX00, w ∈ wsX0_takeBack := fun _ h => List.mem_cons_of_mem _ (List.mem_append_left _ (List.mem_append_right _ h))
set_option maxHeartbeats 2000000 in
set_option maxRecDepth 20000 in
theorem cX0_takeBack_c (l : Launch) {κ : pv_Kt} {L : List Nat} {f : Nat → va_E} {x : Nat → Nat → Nat} {Z : Nat → Nat → Nat → Int32} (hok : pv_ok κ x L f Z) (nx kp : Nat) (hnx : Z 12 1 0 = nI nx) (hnx6 : nx < 6) (hkp : Z 12 2 0 = nI kp) (hkp1 : 1 ≤ kp) : pv_Mv l κ yX0_takeBack wsX0_takeBack rmX0_takeBack L f [.ref (x 12 0), .ref (x 0 1)] 0 0 (pv_Wv κ x L (sBack Z nx kp)) := by
  refine pv_startV (cc := cX0_takeBack) (maxL := 2) (ret := none) (by decide) rfl (Nat.le_of_ble_eq_true rfl) (fun A0 P0 E0 S0 M0 a0 B0 T0 C0 hC => ?_)
  refine pg_sub (vs' := [(0, .ref (x 12 0)), (1, .ref (x 0 1))]) [0, 1] rfl ?_
  refine pg_aload_n (pc := 0) hC dX0_takeBack_0 0 rfl rfl ?_
  refine pg_aload_n (pc := 1) hC dX0_takeBack_1 0 rfl rfl ?_
  refine pgH_geti (pc := 2) (v := nI nx) hC dX0_takeBack_2 1 (List.mem_of_getElem? (i := 1) rfl) miX0_takeBack_X0 (ogI hok 12) (by decide) hnx ?_
  refine pg_bipush (pc := 5) (v := 6) hC dX0_takeBack_5 (by decide) ?_
  refine pg_iadd (pc := 7) (v := nI (nx + 6)) hC dX0_takeBack_7 (nI_add (nx) (6)) ?_
  refine pg_iconst (pc := 8) (v := 1) hC dX0_takeBack_8 (by decide) ?_
  refine pg_isub (pc := 9) (v := nI ((nx + 6) - 1)) hC dX0_takeBack_9 (pk_sub (a := nx + 6) (b := 1) (by omega)) ?_
  refine pg_bipush (pc := 10) (v := 6) hC dX0_takeBack_10 (by decide) ?_
  refine pg_irem (pc := 12) (v := nI (((nx + 6) - 1) % 6)) hC dX0_takeBack_12 (by decide) (pk_rem (a := (nx + 6) - 1) (d := 6) (by omega) (by omega) (by omega)) ?_
  have hok1 := ogI hok 12
  refine pgH_puti (pc := 13) hC dX0_takeBack_13 1 (List.mem_of_getElem? (i := 1) rfl) miX0_takeBack_X0 hok1 (by decide) (fun f1 hokw1 => ?_)
  refine pg_aload_n (pc := 16) hC dX0_takeBack_16 0 rfl rfl ?_
  refine pg_dup (pc := 17) hC dX0_takeBack_17 rfl ?_
  refine pgH_geti (pc := 18) (v := nI kp) hC dX0_takeBack_18 2 (List.mem_of_getElem? (i := 2) rfl) miX0_takeBack_X0 hokw1 (by decide) hkp ?_
  refine pg_iconst (pc := 21) (v := 1) hC dX0_takeBack_21 (by decide) ?_
  refine pg_isub (pc := 22) (v := nI (kp - 1)) hC dX0_takeBack_22 (pk_sub (a := kp) (b := 1) (by omega)) ?_
  refine pgH_puti (pc := 23) hC dX0_takeBack_23 2 (List.mem_of_getElem? (i := 2) rfl) miX0_takeBack_X0 hokw1 (by decide) (fun f2 hokw2 => ?_)
  refine pg_aload_n (pc := 26) hC dX0_takeBack_26 1 rfl rfl ?_
  refine pg_aload_n (pc := 27) hC dX0_takeBack_27 0 rfl rfl ?_
  refine pgH_geta (pc := 28) hC dX0_takeBack_28 (List.mem_of_getElem? (i := 3) rfl) miX0_takeBack_X0 hokw2 ?_
  refine pg_aload_n (pc := 31) hC dX0_takeBack_31 0 rfl rfl ?_
  refine pgH_geti (pc := 32) (v := nI (((nx + 6) - 1) % 6)) hC dX0_takeBack_32 1 (List.mem_of_getElem? (i := 1) rfl) miX0_takeBack_X0 hokw2 (by decide) (by simp [zu, va_up]) ?_
  refine pgH_aldq (pc := 35) hC dX0_takeBack_35 (((nx + 6) - 1) % 6) hokw2 rfl (by omega) ?_
  have hok2 : pv_ok κ x L f2 (va_up (va_up Z 12 (zu (zu (Z 12) 1 0 (nI (((nx + 6) - 1) % 6))) 2 0 (nI (kp - 1)))) 0 (Z 0)) := ogI hokw2 0
  refine pg_callVWv (pc := 36) (As := [.ref (x (1 + (((nx + 6) - 1) % 6)) 1)]) (rest := []) hC dX0_takeBack_36 (cX3_become_c l (by decide) (by omega) (by omega) hok2) (cwV 1 hC.2.2.2.2.1 gX0_takeBack_X3_become rfl rfl rfl (by decide +kernel) ⟨Nat.le_of_ble_eq_true rfl, Nat.le_of_ble_eq_true rfl⟩) (ok_Sm hok2 (by decide) 1 (by decide)) (og_So hok2 (by decide)) rfl rfl rfl rfl (Nat.le_of_ble_eq_true rfl) (Nat.zero_le _) (Nat.zero_le _) (fun f3 hokw3 => ?_)
  exact pg_vret (pc := 39) hC dX0_takeBack_39 rfl ⟨rfl, (by have q := hokw3; rw [show (va_up Z 12 (zu (zu (Z 12) 1 0 (nI ((nx + 6 - 1) % 6))) 2 0 (nI (kp - 1)))) (1 + (nx + 6 - 1) % 6) = Z (1 + (nx + 6 - 1) % 6) from va_up_ne _ _ (by omega)] at q; exact q)⟩
abbrev rmX4_sum : Room := { frames := 0, cells := 0, slots := 0, locals := 0 }
set_option maxHeartbeats 2000000 in
set_option maxRecDepth 20000 in
theorem cX4_sum_c (l : Launch) {κ : pv_Kt} {L : List Nat} {f : Nat → va_E} {a n : Nat} {row : Nat → Int32} (hn : n < 2 ^ 30) (hL : a ∈ L) (hf : f a = .inl (κ.2.1 1, n, .inl row)) : pv_Mi l κ yX4_sum wsX4_sum rmX4_sum L f [.ref (a)] 0 0 (pv_R L f (bx_sum row n)) := by
  refine pv_startI (cc := cX4_sum) (maxL := 3) (ret := (some .int)) (by decide) rfl (Nat.le_of_ble_eq_true rfl) (fun A0 P0 E0 S0 M0 a0 B0 T0 C0 hC => ?_)
  refine pg_sub (vs' := [(0, .ref (a))]) [0] rfl ?_
  refine pg_iconst (pc := 0) (v := 0) hC dX4_sum_0 (by decide) ?_
  refine pg_istore_n (pc := 1) (vs' := [(1, .int 0), (0, .ref (a))]) hC dX4_sum_1 rfl (by decide) rfl ?_
  refine pg_iconst (pc := 2) (v := 0) hC dX4_sum_2 (by decide) ?_
  refine pg_istore_n (pc := 3) (vs' := [(2, .int 0), (1, .int 0), (0, .ref (a))]) hC dX4_sum_3 rfl (by decide) rfl ?_
  refine pg_sub (vs' := [(0, .ref (a)), (1, .int 0), (2, .int 0)]) [2, 1, 0] rfl ?_
  refine pg_loop (pc := 4) (σ := Nat) (I := fun q => match q with | k => k ≤ n) (μ := fun q => match q with | k => n - k) (VS := fun q => match q with | k => [(0, .ref (a)), (1, .int (bx_sum row k)), (2, .int (nI k))]) (FF := fun q => match q with | k => f) ?_ (0) (Nat.zero_le _)
  intro q hI ih1
  obtain ⟨k, rfl⟩ : ∃ z, z = q := ⟨_, rfl⟩
  dsimp only at hI ih1 ⊢
  have hI2 := hI
  obtain hk := hI
  refine pg_iload_n (pc := 4) hC dX4_sum_4 2 rfl rfl ?_
  refine pg_aload_n (pc := 5) hC dX4_sum_5 0 rfl rfl ?_
  refine pg_alen (pc := 6) (v := nI n) hC dX4_sum_6 1 rfl hL hf rfl ?_
  refine pg_icmp_geN (pc := 7) hC 22 dX4_sum_7 (by decide) (k) (n) rfl rfl (by omega) (by omega) (fun c2 => ?_) (fun c2 => ?_)
  · skip
    refine pg_iload_n (pc := 22) hC dX4_sum_22 1 rfl rfl ?_
    exact pg_iret (pc := 23) hC dX4_sum_23 rfl ⟨(by rw [show k = n by omega]), rfl⟩
  · skip
    refine pg_iload_n (pc := 10) hC dX4_sum_10 1 rfl rfl ?_
    refine pg_aload_n (pc := 11) hC dX4_sum_11 0 rfl rfl ?_
    refine pg_iload_n (pc := 12) hC dX4_sum_12 2 rfl rfl ?_
    refine pg_iald (pc := 13) (v := row (k)) hC dX4_sum_13 (k) hL hf rfl (by omega) (by omega) rfl ?_
    refine pg_iadd (pc := 14) (v := (bx_sum row k) + (row k)) hC dX4_sum_14 rfl ?_
    refine pg_istore_n (pc := 15) (vs' := [(1, .int ((bx_sum row k) + (row k))), (0, .ref (a)), (2, .int (nI k))]) hC dX4_sum_15 rfl (by decide) rfl ?_
    refine pg_iinc (pc := 16) (v := nI (k + 1)) (vs' := [(2, .int (nI (k + 1))), (1, .int ((bx_sum row k) + (row k))), (0, .ref (a))]) hC dX4_sum_16 2 rfl (nI_add (k) 1) (by decide) rfl ?_
    refine pg_goto (pc := 19) hC 4 dX4_sum_19 (by decide) ?_
    refine pg_sub (vs' := [(0, .ref (a)), (1, .int ((bx_sum row k) + (row k))), (2, .int (nI (k + 1)))]) [2, 1, 0] rfl ?_
    exact ih1 (k + 1) (by omega) (by omega)
abbrev rmX4_offerError : Room := { frames := 2, cells := 0, slots := 0, locals := 42 }
theorem miX4_offerError_X4 : ∀ w ∈ wsX40, w ∈ wsX4_offerError := fun _ h => List.mem_cons_of_mem _ (List.mem_append_left _ (List.mem_append_right _ h))
set_option maxHeartbeats 2000000 in
set_option maxRecDepth 20000 in
theorem cX4_offerError_c (l : Launch) {κ : pv_Kt} {L : List Nat} {f : Nat → va_E} {x : Nat → Nat → Nat} {Z : Nat → Nat → Nat → Int32} (hok : pv_ok κ x L f Z) (pp ee wt mn : Int32) : pv_Mi l κ yX4_offerError wsX4_offerError rmX4_offerError L f [.ref (x 12 2), .int pp, .int ee, .int wt, .int mn] 0 0 (pv_R L f (tErr (Z 0) pp ee wt mn)) := by
  refine pv_startI (cc := cX4_offerError) (maxL := 5) (ret := (some .int)) (by decide) rfl (Nat.le_of_ble_eq_true rfl) (fun A0 P0 E0 S0 M0 a0 B0 T0 C0 hC => ?_)
  refine pg_sub (vs' := [(0, .ref (x 12 2)), (1, .int pp), (2, .int ee), (3, .int wt), (4, .int mn)]) [0, 1, 2, 3, 4] rfl ?_
  refine pg_iload_n (pc := 0) hC dX4_offerError_0 1 rfl rfl ?_
  refine pg_callSRi (pc := 1) (As := [.int pp]) (rest := []) hC dX4_offerError_1 (cX4_isPupil_c l pp) (va_cwS 1 hC.2.2.2.2.1 gX4_offerError_X4_isPupil rfl rfl rfl (by decide +kernel) ⟨Nat.le_of_ble_eq_true rfl, Nat.le_of_ble_eq_true rfl⟩) rfl rfl (Nat.le_of_ble_eq_true rfl) (Nat.zero_le _) (Nat.zero_le _) ?_
  refine pg_if_eq (pc := 4) hC 18 dX4_offerError_4 (by decide)  (fun c1 => ?_) (fun c1 => ?_)
  · skip
    refine pg_iconst (pc := 18) (v := (-1)) hC dX4_offerError_18 (by decide) ?_
    exact pg_iret (pc := 19) hC dX4_offerError_19 rfl ⟨(by first | rfl | (simp [tErr, c1]; done) | (simp_all [tErr]; done)), rfl⟩
  · skip
    refine pg_aload_n (pc := 7) hC dX4_offerError_7 0 rfl rfl ?_
    refine pgX_get0 (pc := 8) hC dX4_offerError_8 (List.mem_of_getElem? (i := 1) rfl) miX4_offerError_X4 hok ?_
    refine pg_iload_n (pc := 11) hC dX4_offerError_11 2 rfl rfl ?_
    refine pg_callVRi (pc := 12) (As := [.int ee]) (rest := []) hC dX4_offerError_12 (cX3_hasExcuse_c l (by decide) (ogI hok 0) ee) (cwV 1 hC.2.2.2.2.1 gX4_offerError_X3_hasExcuse rfl rfl rfl (by decide +kernel) ⟨Nat.le_of_ble_eq_true rfl, Nat.le_of_ble_eq_true rfl⟩) (ok_Sm (ogI hok 0) (by decide) 1 (by decide)) (og_So (ogI hok 0) (by decide)) rfl rfl rfl rfl (Nat.le_of_ble_eq_true rfl) (Nat.zero_le _) (Nat.zero_le _) ?_
    refine pg_if_ne (pc := 15) hC 20 dX4_offerError_15 (by decide)  (fun c2 => ?_) (fun c2 => ?_)
    · skip
      refine pg_iload_n (pc := 20) hC dX4_offerError_20 3 rfl rfl ?_
      refine pg_bipush (pc := 21) (v := (-6)) hC dX4_offerError_21 (by decide) ?_
      refine pg_icmp_eq (pc := 23) hC 35 dX4_offerError_23 (by decide)  (fun c3 => ?_) (fun c3 => ?_)
      · skip
        refine pg_iload (pc := 35) hC dX4_offerError_35 4 rfl ?_
        refine pg_iconst (pc := 37) (v := 1) hC dX4_offerError_37 (by decide) ?_
        refine pg_bipush (pc := 38) (v := 99) hC dX4_offerError_38 (by decide) ?_
        refine pg_callSRi (pc := 40) (As := [.int mn, .int 1, .int 99]) (rest := []) hC dX4_offerError_40 (cX4_isWithin_c l mn 1 99) (va_cwS 3 hC.2.2.2.2.1 gX4_offerError_X4_isWithin rfl rfl rfl (by decide +kernel) ⟨Nat.le_of_ble_eq_true rfl, Nat.le_of_ble_eq_true rfl⟩) rfl rfl (Nat.le_of_ble_eq_true rfl) (Nat.zero_le _) (Nat.zero_le _) ?_
        refine pg_if_eq (pc := 43) hC 51 dX4_offerError_43 (by decide)  (fun c4 => ?_) (fun c4 => ?_)
        · skip
          refine pg_bipush (pc := 51) (v := (-2)) hC dX4_offerError_51 (by decide) ?_
          exact pg_iret (pc := 53) hC dX4_offerError_53 rfl ⟨(by first | rfl | (simp [tErr, c1, c2, c3, c4]; done) | (simp_all [tErr]; done)), rfl⟩
        · skip
          refine pg_iload_n (pc := 46) hC dX4_offerError_46 3 rfl rfl ?_
          refine pg_iload_n (pc := 47) hC dX4_offerError_47 1 rfl rfl ?_
          refine pg_icmp_ne (pc := 48) hC 54 dX4_offerError_48 (by decide)  (fun c5 => ?_) (fun c5 => ?_)
          · skip
            refine pg_iconst (pc := 54) (v := 0) hC dX4_offerError_54 (by decide) ?_
            exact pg_iret (pc := 55) hC dX4_offerError_55 rfl ⟨(by first | rfl | (simp [tErr, c1, c2, c3, c4, c5]; done) | (simp_all [tErr]; done)), rfl⟩
          · skip
            refine pg_bipush (pc := 51) (v := (-2)) hC dX4_offerError_51 (by decide) ?_
            exact pg_iret (pc := 53) hC dX4_offerError_53 rfl ⟨(by first | rfl | (simp [tErr, c1, c2, c3, c4, c5]; done) | (simp_all [tErr]; done)), rfl⟩
      · skip
        refine pg_iload_n (pc := 26) hC dX4_offerError_26 3 rfl rfl ?_
        refine pg_callSRi (pc := 27) (As := [.int wt]) (rest := []) hC dX4_offerError_27 (cX4_isPupil_c l wt) (va_cwS 1 hC.2.2.2.2.1 gX4_offerError_X4_isPupil rfl rfl rfl (by decide +kernel) ⟨Nat.le_of_ble_eq_true rfl, Nat.le_of_ble_eq_true rfl⟩) rfl rfl (Nat.le_of_ble_eq_true rfl) (Nat.zero_le _) (Nat.zero_le _) ?_
        refine pg_if_ne (pc := 30) hC 35 dX4_offerError_30 (by decide)  (fun c6 => ?_) (fun c6 => ?_)
        · skip
          refine pg_iload (pc := 35) hC dX4_offerError_35 4 rfl ?_
          refine pg_iconst (pc := 37) (v := 1) hC dX4_offerError_37 (by decide) ?_
          refine pg_bipush (pc := 38) (v := 99) hC dX4_offerError_38 (by decide) ?_
          refine pg_callSRi (pc := 40) (As := [.int mn, .int 1, .int 99]) (rest := []) hC dX4_offerError_40 (cX4_isWithin_c l mn 1 99) (va_cwS 3 hC.2.2.2.2.1 gX4_offerError_X4_isWithin rfl rfl rfl (by decide +kernel) ⟨Nat.le_of_ble_eq_true rfl, Nat.le_of_ble_eq_true rfl⟩) rfl rfl (Nat.le_of_ble_eq_true rfl) (Nat.zero_le _) (Nat.zero_le _) ?_
          refine pg_if_eq (pc := 43) hC 51 dX4_offerError_43 (by decide)  (fun c7 => ?_) (fun c7 => ?_)
          · skip
            refine pg_bipush (pc := 51) (v := (-2)) hC dX4_offerError_51 (by decide) ?_
            exact pg_iret (pc := 53) hC dX4_offerError_53 rfl ⟨(by first | rfl | (simp [tErr, c1, c2, c3, c6, c7]; done) | (simp_all [tErr]; done)), rfl⟩
          · skip
            refine pg_iload_n (pc := 46) hC dX4_offerError_46 3 rfl rfl ?_
            refine pg_iload_n (pc := 47) hC dX4_offerError_47 1 rfl rfl ?_
            refine pg_icmp_ne (pc := 48) hC 54 dX4_offerError_48 (by decide)  (fun c8 => ?_) (fun c8 => ?_)
            · skip
              refine pg_iconst (pc := 54) (v := 0) hC dX4_offerError_54 (by decide) ?_
              exact pg_iret (pc := 55) hC dX4_offerError_55 rfl ⟨(by first | rfl | (simp [tErr, c1, c2, c3, c6, c7, c8]; done) | (simp_all [tErr]; done)), rfl⟩
            · skip
              refine pg_bipush (pc := 51) (v := (-2)) hC dX4_offerError_51 (by decide) ?_
              exact pg_iret (pc := 53) hC dX4_offerError_53 rfl ⟨(by first | rfl | (simp [tErr, c1, c2, c3, c6, c7, c8]; done) | (simp_all [tErr]; done)), rfl⟩
        · skip
          refine pg_iconst (pc := 33) (v := (-1)) hC dX4_offerError_33 (by decide) ?_
          exact pg_iret (pc := 34) hC dX4_offerError_34 rfl ⟨(by first | rfl | (simp [tErr, c1, c2, c3, c6]; done) | (simp_all [tErr]; done)), rfl⟩
    · skip
      refine pg_iconst (pc := 18) (v := (-1)) hC dX4_offerError_18 (by decide) ?_
      exact pg_iret (pc := 19) hC dX4_offerError_19 rfl ⟨(by first | rfl | (simp [tErr, c1, c2]; done) | (simp_all [tErr]; done)), rfl⟩
abbrev rmX4_why : Room := { frames := 4, cells := 0, slots := 0, locals := 95 }
theorem miX4_why_X4 : ∀ w ∈ wsX40, w ∈ wsX4_why := fun _ h => List.mem_cons_of_mem _ (List.mem_append_left _ (List.mem_append_right _ h))
set_option maxHeartbeats 2000000 in
set_option maxRecDepth 20000 in
theorem cX4_why_c (l : Launch) {κ : pv_Kt} {L : List Nat} {f : Nat → va_E} {x : Nat → Nat → Nat} {Z : Nat → Nat → Nat → Int32} (hok : pv_ok κ x L f Z) (n : Nat) (hn : Z 0 1 0 = nI n) (hn12 : n ≤ 12) (pp ee wt mn : Int32) : pv_Mi l κ yX4_why wsX4_why rmX4_why L f [.ref (x 12 2), .int pp, .int ee, .int wt, .int mn] 0 0 (pv_R L f (tWhy (Z 0) pp ee wt mn)) := by
  refine pv_startI (cc := cX4_why) (maxL := 6) (ret := (some .int)) (by decide) rfl (Nat.le_of_ble_eq_true rfl) (fun A0 P0 E0 S0 M0 a0 B0 T0 C0 hC => ?_)
  refine pg_sub (vs' := [(0, .ref (x 12 2)), (1, .int pp), (2, .int ee), (3, .int wt), (4, .int mn)]) [0, 1, 2, 3, 4] rfl ?_
  refine pg_aload_n (pc := 0) hC dX4_why_0 0 rfl rfl ?_
  refine pg_iload_n (pc := 1) hC dX4_why_1 1 rfl rfl ?_
  refine pg_iload_n (pc := 2) hC dX4_why_2 2 rfl rfl ?_
  refine pg_iload_n (pc := 3) hC dX4_why_3 3 rfl rfl ?_
  refine pg_iload (pc := 4) hC dX4_why_4 4 rfl ?_
  refine pg_callVRi (pc := 6) (As := [.int pp, .int ee, .int wt, .int mn]) (rest := []) hC dX4_why_6 (cX4_offerError_c l hok pp ee wt mn) (cwV 4 hC.2.2.2.2.1 gX4_why_X4_offerError rfl rfl rfl (by decide +kernel) ⟨Nat.le_of_ble_eq_true rfl, Nat.le_of_ble_eq_true rfl⟩) (ok_mem hok (by decide)) (ok_Xo hok) rfl rfl rfl rfl (Nat.le_of_ble_eq_true rfl) (Nat.zero_le _) (Nat.zero_le _) ?_
  refine pg_istore (pc := 9) (vs' := [(5, .int (tErr (Z 0) pp ee wt mn)), (0, .ref (x 12 2)), (1, .int pp), (2, .int ee), (3, .int wt), (4, .int mn)]) hC dX4_why_9 (by decide) rfl ?_
  refine pg_iload (pc := 11) hC dX4_why_11 0 rfl ?_
  refine pg_if_eq (pc := 13) hC 19 dX4_why_13 (by decide)  (fun c1 => ?_) (fun c1 => ?_)
  · skip
    obtain ⟨p, e, hp, he, rfl, rfl, hw⟩ := tErr_0 hn hn12 c1
    have clp : cl (nI p) = p := cl_nI (by omega)
    have cle : cl (nI e) = e := cl_nI (by omega)
    refine pg_aload_n (pc := 19) hC dX4_why_19 1 rfl rfl ?_
    refine pgX_get0 (pc := 20) hC dX4_why_20 (List.mem_of_getElem? (i := 1) rfl) miX4_why_X4 hok ?_
    refine pg_iload_n (pc := 23) hC dX4_why_23 2 rfl rfl ?_
    refine pg_iload_n (pc := 24) hC dX4_why_24 3 rfl rfl ?_
    refine pg_iload_n (pc := 25) hC dX4_why_25 4 rfl rfl ?_
    refine pg_iload (pc := 26) hC dX4_why_26 5 rfl ?_
    refine pg_callVRi (pc := 28) (As := [.int (nI p), .int (nI e), .int wt, .int mn]) (rest := []) hC dX4_why_28 (cX3_reasonAgainst_c l (by decide) (ogI hok 0) (p) (e) (by omega) (by omega) wt hw mn) (cwV 4 hC.2.2.2.2.1 gX4_why_X3_reasonAgainst rfl rfl rfl (by decide +kernel) ⟨Nat.le_of_ble_eq_true rfl, Nat.le_of_ble_eq_true rfl⟩) (ok_Sm (ogI hok 0) (by decide) 1 (by decide)) (og_So (ogI hok 0) (by decide)) rfl rfl rfl rfl (Nat.le_of_ble_eq_true rfl) (Nat.zero_le _) (Nat.zero_le _) ?_
    exact pg_iret (pc := 31) hC dX4_why_31 rfl ⟨(by first | rfl | (simp [tWhy, c1, clp, cle]; done) | (simp_all [tWhy]; done)), rfl⟩
  · skip
    refine pg_iload (pc := 16) hC dX4_why_16 0 rfl ?_
    exact pg_iret (pc := 18) hC dX4_why_18 rfl ⟨(by first | rfl | (simp [tWhy, c1]; done) | (simp_all [tWhy]; done)), rfl⟩
abbrev rmX4_weight : Room := { frames := 3, cells := 0, slots := 0, locals := 71 }
theorem miX4_weight_X4 : ∀ w ∈ wsX40, w ∈ wsX4_weight := fun _ h => List.mem_cons_of_mem _ (List.mem_append_left _ (List.mem_append_right _ h))
set_option maxHeartbeats 2000000 in
set_option maxRecDepth 20000 in
theorem cX4_weight_c (l : Launch) {κ : pv_Kt} {L : List Nat} {f : Nat → va_E} {x : Nat → Nat → Nat} {Z : Nat → Nat → Nat → Int32} (hok : pv_ok κ x L f Z) (n : Nat) (hn : Z 0 1 0 = nI n) (hn12 : n ≤ 12) (pp ee wt mn : Int32) : pv_Mi l κ yX4_weight wsX4_weight rmX4_weight L f [.ref (x 12 2), .int pp, .int ee, .int wt, .int mn] 0 0 (pv_R L f (tWeight (Z 0) pp ee wt mn)) := by
  refine pv_startI (cc := cX4_weight) (maxL := 6) (ret := (some .int)) (by decide) rfl (Nat.le_of_ble_eq_true rfl) (fun A0 P0 E0 S0 M0 a0 B0 T0 C0 hC => ?_)
  refine pg_sub (vs' := [(0, .ref (x 12 2)), (1, .int pp), (2, .int ee), (3, .int wt), (4, .int mn)]) [0, 1, 2, 3, 4] rfl ?_
  refine pg_aload_n (pc := 0) hC dX4_weight_0 0 rfl rfl ?_
  refine pg_iload_n (pc := 1) hC dX4_weight_1 1 rfl rfl ?_
  refine pg_iload_n (pc := 2) hC dX4_weight_2 2 rfl rfl ?_
  refine pg_iload_n (pc := 3) hC dX4_weight_3 3 rfl rfl ?_
  refine pg_iload (pc := 4) hC dX4_weight_4 4 rfl ?_
  refine pg_callVRi (pc := 6) (As := [.int pp, .int ee, .int wt, .int mn]) (rest := []) hC dX4_weight_6 (cX4_offerError_c l hok pp ee wt mn) (cwV 4 hC.2.2.2.2.1 gX4_weight_X4_offerError rfl rfl rfl (by decide +kernel) ⟨Nat.le_of_ble_eq_true rfl, Nat.le_of_ble_eq_true rfl⟩) (ok_mem hok (by decide)) (ok_Xo hok) rfl rfl rfl rfl (Nat.le_of_ble_eq_true rfl) (Nat.zero_le _) (Nat.zero_le _) ?_
  refine pg_istore (pc := 9) (vs' := [(5, .int (tErr (Z 0) pp ee wt mn)), (0, .ref (x 12 2)), (1, .int pp), (2, .int ee), (3, .int wt), (4, .int mn)]) hC dX4_weight_9 (by decide) rfl ?_
  refine pg_iload (pc := 11) hC dX4_weight_11 0 rfl ?_
  refine pg_if_eq (pc := 13) hC 19 dX4_weight_13 (by decide)  (fun c1 => ?_) (fun c1 => ?_)
  · skip
    obtain ⟨p, e, hp, he, rfl, rfl, hw⟩ := tErr_0 hn hn12 c1
    have clp : cl (nI p) = p := cl_nI (by omega)
    have cle : cl (nI e) = e := cl_nI (by omega)
    refine pg_sipush (pc := 19) (v := 1000) hC dX4_weight_19 (by decide) ?_
    refine pg_aload_n (pc := 22) hC dX4_weight_22 1 rfl rfl ?_
    refine pgX_get0 (pc := 23) hC dX4_weight_23 (List.mem_of_getElem? (i := 1) rfl) miX4_weight_X4 hok ?_
    refine pg_iload_n (pc := 26) hC dX4_weight_26 2 rfl rfl ?_
    refine pg_iload_n (pc := 27) hC dX4_weight_27 3 rfl rfl ?_
    refine pg_iload_n (pc := 28) hC dX4_weight_28 4 rfl rfl ?_
    refine pg_iload (pc := 29) hC dX4_weight_29 5 rfl ?_
    refine pg_callVRi (pc := 31) (As := [.int (nI p), .int (nI e), .int wt, .int mn]) (rest := [.int 1000]) hC dX4_weight_31 (cX3_weightOf_c l (by decide) (ogI hok 0) (p) (e) (by omega) (by omega) wt hw mn) (cwV 4 hC.2.2.2.2.1 gX4_weight_X3_weightOf rfl rfl rfl (by decide +kernel) ⟨Nat.le_of_ble_eq_true rfl, Nat.le_of_ble_eq_true rfl⟩) (ok_Sm (ogI hok 0) (by decide) 1 (by decide)) (og_So (ogI hok 0) (by decide)) rfl rfl rfl rfl (Nat.le_of_ble_eq_true rfl) (Nat.zero_le _) (Nat.zero_le _) ?_
    refine pg_iadd (pc := 34) (v := 1000 + (sWt (Z 0) (p) (e) wt mn)) hC dX4_weight_34 rfl ?_
    exact pg_iret (pc := 35) hC dX4_weight_35 rfl ⟨(by first | rfl | (simp [tWeight, c1, clp, cle]; done) | (simp_all [tWeight]; done)), rfl⟩
  · skip
    refine pg_iload (pc := 16) hC dX4_weight_16 0 rfl ?_
    exact pg_iret (pc := 18) hC dX4_weight_18 rfl ⟨(by first | rfl | (simp [tWeight, c1]; done) | (simp_all [tWeight]; done)), rfl⟩
abbrev rmX4_offer : Room := { frames := 5, cells := 0, slots := 0, locals := 120 }
theorem miX4_offer_X4 : ∀ w ∈ wsX40, w ∈ wsX4_offer := fun _ h => List.mem_cons_of_mem _ (List.mem_append_left _ (List.mem_append_left _ (List.mem_append_right _ h)))
set_option maxHeartbeats 2000000 in
set_option maxRecDepth 20000 in
theorem cX4_offer_c (l : Launch) {κ : pv_Kt} {L : List Nat} {f : Nat → va_E} {x : Nat → Nat → Nat} {Z : Nat → Nat → Nat → Int32} (hok : pv_ok κ x L f Z) (n : Nat) (hn : Z 0 1 0 = nI n) (hn12 : n ≤ 12) (nx kp : Nat) (hnx : Z 12 1 0 = nI nx) (hnx6 : nx < 6) (hkp : Z 12 2 0 = nI kp) (hkp6 : kp ≤ 6) (pp ee wt mn : Int32) : pv_Mi l κ yX4_offer wsX4_offer rmX4_offer L f [.ref (x 12 2), .int pp, .int ee, .int wt, .int mn] 0 0 (pv_Wi κ x L (tOfferZ Z nx kp pp ee wt mn) (tWhy (Z 0) pp ee wt mn)) := by
  refine pv_startI (cc := cX4_offer) (maxL := 6) (ret := (some .int)) (by decide) rfl (Nat.le_of_ble_eq_true rfl) (fun A0 P0 E0 S0 M0 a0 B0 T0 C0 hC => ?_)
  refine pg_sub (vs' := [(0, .ref (x 12 2)), (1, .int pp), (2, .int ee), (3, .int wt), (4, .int mn)]) [0, 1, 2, 3, 4] rfl ?_
  refine pg_aload_n (pc := 0) hC dX4_offer_0 0 rfl rfl ?_
  refine pg_iload_n (pc := 1) hC dX4_offer_1 1 rfl rfl ?_
  refine pg_iload_n (pc := 2) hC dX4_offer_2 2 rfl rfl ?_
  refine pg_iload_n (pc := 3) hC dX4_offer_3 3 rfl rfl ?_
  refine pg_iload (pc := 4) hC dX4_offer_4 4 rfl ?_
  refine pg_callVRi (pc := 6) (As := [.int pp, .int ee, .int wt, .int mn]) (rest := []) hC dX4_offer_6 (cX4_offerError_c l hok pp ee wt mn) (cwV 4 hC.2.2.2.2.1 gX4_offer_X4_offerError rfl rfl rfl (by decide +kernel) ⟨Nat.le_of_ble_eq_true rfl, Nat.le_of_ble_eq_true rfl⟩) (ok_mem hok (by decide)) (ok_Xo hok) rfl rfl rfl rfl (Nat.le_of_ble_eq_true rfl) (Nat.zero_le _) (Nat.zero_le _) ?_
  refine pg_istore (pc := 9) (vs' := [(5, .int (tErr (Z 0) pp ee wt mn)), (0, .ref (x 12 2)), (1, .int pp), (2, .int ee), (3, .int wt), (4, .int mn)]) hC dX4_offer_9 (by decide) rfl ?_
  refine pg_iload (pc := 11) hC dX4_offer_11 0 rfl ?_
  refine pg_if_eq (pc := 13) hC 19 dX4_offer_13 (by decide)  (fun c1 => ?_) (fun c1 => ?_)
  · skip
    obtain ⟨p, e, hp, he, rfl, rfl, hw⟩ := tErr_0 hn hn12 c1
    have clp : cl (nI p) = p := cl_nI (by omega)
    have cle : cl (nI e) = e := cl_nI (by omega)
    refine pg_aload_n (pc := 19) hC dX4_offer_19 1 rfl rfl ?_
    refine pgX_get1 (pc := 20) hC dX4_offer_20 (List.mem_of_getElem? (i := 1) rfl) miX4_offer_X4 hok ?_
    refine pg_aload_n (pc := 23) hC dX4_offer_23 1 rfl rfl ?_
    refine pgX_get0 (pc := 24) hC dX4_offer_24 (List.mem_of_getElem? (i := 2) rfl) miX4_offer_X4 hok ?_
    refine pg_callVWv (pc := 27) (As := [.ref (x 0 1)]) (rest := []) hC dX4_offer_27 (cX0_keep_c l hok nx kp hnx hnx6 hkp hkp6) (cwV 1 hC.2.2.2.2.1 gX4_offer_X0_keep rfl rfl rfl (by decide +kernel) ⟨Nat.le_of_ble_eq_true rfl, Nat.le_of_ble_eq_true rfl⟩) (ok_mem hok (by decide)) (ok_Ho hok) rfl rfl rfl rfl (Nat.le_of_ble_eq_true rfl) (Nat.zero_le _) (Nat.zero_le _) (fun f1 hokw1 => ?_)
    have hokk2 := sKeep_ok hokw1
    refine pg_aload_n (pc := 30) hC dX4_offer_30 1 rfl rfl ?_
    refine pgX_get0 (pc := 31) hC dX4_offer_31 (List.mem_of_getElem? (i := 2) rfl) miX4_offer_X4 hokk2 ?_
    refine pg_iload_n (pc := 34) hC dX4_offer_34 2 rfl rfl ?_
    refine pg_iload_n (pc := 35) hC dX4_offer_35 3 rfl rfl ?_
    refine pg_iload_n (pc := 36) hC dX4_offer_36 4 rfl rfl ?_
    refine pg_iload (pc := 37) hC dX4_offer_37 5 rfl ?_
    refine pg_callVWi (pc := 39) (As := [.int (nI p), .int (nI e), .int wt, .int mn]) (rest := []) hC dX4_offer_39 (cX3_takeOffer_c l (by decide) hokk2 (p) (e) (by omega) (by omega) wt hw mn) (cwV 4 hC.2.2.2.2.1 gX4_offer_X3_takeOffer rfl rfl rfl (by decide +kernel) ⟨Nat.le_of_ble_eq_true rfl, Nat.le_of_ble_eq_true rfl⟩) (ok_Sm hokk2 (by decide) 1 (by decide)) (og_So hokk2 (by decide)) rfl rfl rfl rfl (Nat.le_of_ble_eq_true rfl) (Nat.zero_le _) (Nat.zero_le _) (fun f2 hokw2 => ?_)
    exact pg_iret (pc := 42) hC dX4_offer_42 rfl ⟨(by first | rfl | (simp [tWhy, c1, clp, cle]; done) | (simp_all [tWhy]; done)), rfl, (by rw [show tOfferZ Z nx kp (nI p) (nI e) wt mn = (va_up (sKeep Z nx kp) 0 (sOffer (Z 0) (p) (e) wt mn)) from by (first | rfl | (simp [tOfferZ, c1, clp, cle]; done))]; exact hokw2)⟩
  · skip
    refine pg_iload (pc := 16) hC dX4_offer_16 0 rfl ?_
    exact pg_iret (pc := 18) hC dX4_offer_18 rfl ⟨(by first | rfl | (simp [tWhy, c1]; done) | (simp_all [tWhy]; done)), rfl, (by rw [show tOfferZ Z nx kp pp ee wt mn = Z from by (first | rfl | (simp [tOfferZ, c1]; done))]; exact hok)⟩
abbrev rmX4_novelty : Room := { frames := 2, cells := 0, slots := 0, locals := 46 }
theorem miX4_novelty_X4 : ∀ w ∈ wsX40, w ∈ wsX4_novelty := fun _ h => List.mem_cons_of_mem _ (List.mem_append_left _ (List.mem_append_right _ h))
set_option maxHeartbeats 2000000 in
set_option maxRecDepth 20000 in
theorem cX4_novelty_c (l : Launch) {κ : pv_Kt} {L : List Nat} {f : Nat → va_E} {x : Nat → Nat → Nat} {Z : Nat → Nat → Nat → Int32} (hok : pv_ok κ x L f Z) (n : Nat) (hn : Z 0 1 0 = nI n) (hn12 : n ≤ 12) (pp ee : Int32) : pv_Mi l κ yX4_novelty wsX4_novelty rmX4_novelty L f [.ref (x 12 2), .int pp, .int ee] 0 0 (pv_R L f (tNovelty (Z 0) pp ee)) := by
  refine pv_startI (cc := cX4_novelty) (maxL := 3) (ret := (some .int)) (by decide) rfl (Nat.le_of_ble_eq_true rfl) (fun A0 P0 E0 S0 M0 a0 B0 T0 C0 hC => ?_)
  refine pg_sub (vs' := [(0, .ref (x 12 2)), (1, .int pp), (2, .int ee)]) [0, 1, 2] rfl ?_
  refine pg_iload_n (pc := 0) hC dX4_novelty_0 1 rfl rfl ?_
  refine pg_callSRi (pc := 1) (As := [.int pp]) (rest := []) hC dX4_novelty_1 (cX4_isPupil_c l pp) (va_cwS 1 hC.2.2.2.2.1 gX4_novelty_X4_isPupil rfl rfl rfl (by decide +kernel) ⟨Nat.le_of_ble_eq_true rfl, Nat.le_of_ble_eq_true rfl⟩) rfl rfl (Nat.le_of_ble_eq_true rfl) (Nat.zero_le _) (Nat.zero_le _) ?_
  refine pg_if_eq (pc := 4) hC 18 dX4_novelty_4 (by decide)  (fun c1 => ?_) (fun c1 => ?_)
  · skip
    refine pg_iconst (pc := 18) (v := (-1)) hC dX4_novelty_18 (by decide) ?_
    exact pg_iret (pc := 19) hC dX4_novelty_19 rfl ⟨(by first | rfl | (simp [tNovelty, c1]; done) | (simp_all [tNovelty]; done)), rfl⟩
  · skip
    obtain ⟨p, hp, rfl⟩ := bW_nat (m := 9) rfl (by decide) c1
    have clp : cl (nI p) = p := cl_nI (by omega)
    refine pg_aload_n (pc := 7) hC dX4_novelty_7 0 rfl rfl ?_
    refine pgX_get0 (pc := 8) hC dX4_novelty_8 (List.mem_of_getElem? (i := 1) rfl) miX4_novelty_X4 hok ?_
    refine pg_iload_n (pc := 11) hC dX4_novelty_11 2 rfl rfl ?_
    refine pg_callVRi (pc := 12) (As := [.int ee]) (rest := []) hC dX4_novelty_12 (cX3_hasExcuse_c l (by decide) (ogI hok 0) ee) (cwV 1 hC.2.2.2.2.1 gX4_novelty_X3_hasExcuse rfl rfl rfl (by decide +kernel) ⟨Nat.le_of_ble_eq_true rfl, Nat.le_of_ble_eq_true rfl⟩) (ok_Sm (ogI hok 0) (by decide) 1 (by decide)) (og_So (ogI hok 0) (by decide)) rfl rfl rfl rfl (Nat.le_of_ble_eq_true rfl) (Nat.zero_le _) (Nat.zero_le _) ?_
    refine pg_if_ne (pc := 15) hC 20 dX4_novelty_15 (by decide)  (fun c2 => ?_) (fun c2 => ?_)
    · skip
      obtain ⟨e, he, rfl⟩ := bH_nat hn (by omega) c2
      have cle : cl (nI e) = e := cl_nI (by omega)
      refine pg_aload_n (pc := 20) hC dX4_novelty_20 0 rfl rfl ?_
      refine pgX_get0 (pc := 21) hC dX4_novelty_21 (List.mem_of_getElem? (i := 1) rfl) miX4_novelty_X4 hok ?_
      refine pg_iload_n (pc := 24) hC dX4_novelty_24 1 rfl rfl ?_
      refine pg_iload_n (pc := 25) hC dX4_novelty_25 2 rfl rfl ?_
      refine pg_callVRi (pc := 26) (As := [.int (nI p), .int (nI e)]) (rest := []) hC dX4_novelty_26 (cX3_noveltyFor_c l (by decide) (ogI hok 0) (p) (e) (by omega) (by omega)) (cwV 2 hC.2.2.2.2.1 gX4_novelty_X3_noveltyFor rfl rfl rfl (by decide +kernel) ⟨Nat.le_of_ble_eq_true rfl, Nat.le_of_ble_eq_true rfl⟩) (ok_Sm (ogI hok 0) (by decide) 1 (by decide)) (og_So (ogI hok 0) (by decide)) rfl rfl rfl rfl (Nat.le_of_ble_eq_true rfl) (Nat.zero_le _) (Nat.zero_le _) ?_
      exact pg_iret (pc := 29) hC dX4_novelty_29 rfl ⟨(by first | rfl | (simp [tNovelty, c1, c2, clp, cle]; done) | (simp_all [tNovelty]; done)), rfl⟩
    · skip
      refine pg_iconst (pc := 18) (v := (-1)) hC dX4_novelty_18 (by decide) ?_
      exact pg_iret (pc := 19) hC dX4_novelty_19 rfl ⟨(by first | rfl | (simp [tNovelty, c1, c2, clp]; done) | (simp_all [tNovelty]; done)), rfl⟩
