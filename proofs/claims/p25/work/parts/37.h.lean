abbrev rmX4_fault : Room := { frames := 4, cells := 0, slots := 0, locals := 86 }
theorem miX4_fault_X1 : ∀ w ∈ wsX10, w ∈ wsX4_fault := fun _ h => List.mem_cons_of_mem _ (List.mem_append_left _ (List.mem_append_right _ h))
theorem miX4_fault_X4 : ∀ w ∈ wsX40, w ∈ wsX4_fault := fun _ h => List.mem_cons_of_mem _ (List.mem_append_left _ (List.mem_append_left _ (List.mem_append_right _ h)))
set_option maxHeartbeats 2000000 in
set_option maxRecDepth 20000 in
theorem cX4_fault_c (l : Launch) {κ : pv_Kt} {L : List Nat} {f : Nat → va_E} {x : Nat → Nat → Nat} {Z : Nat → Nat → Nat → Int32} (hok : pv_ok κ x L f Z) (pl : Nat) (hpl : Z 9 1 0 = nI pl) (hpl60 : pl ≤ 60)  : pv_Mi l κ yX4_fault wsX4_fault rmX4_fault L f [.ref (x 12 2)] 0 0 (pv_Wi κ x L (va_up Z 10 (tFault Z pl).2) ((tFault Z pl).1)) := by
  refine pv_startI (cc := cX4_fault) (maxL := 2) (ret := (some .int)) (by decide) rfl (Nat.le_of_ble_eq_true rfl) (fun A0 P0 E0 S0 M0 a0 B0 T0 C0 hC => ?_)
  refine pg_sub (vs' := [(0, .ref (x 12 2))]) [0] rfl ?_
  refine pg_aload_n (pc := 0) hC dX4_fault_0 0 rfl rfl ?_
  refine pgX_get5 (pc := 1) hC dX4_fault_1 (List.mem_of_getElem? (i := 1) rfl) miX4_fault_X4 hok ?_
  have hok1 := ogI hok 10
  refine pg_callVWv (pc := 4) (As := []) (rest := []) hC dX4_fault_4 (cX2_begin_c l hok1 ) (cwV 0 hC.2.2.2.2.1 gX4_fault_X2_begin rfl rfl rfl (by decide +kernel) ⟨Nat.le_of_ble_eq_true rfl, Nat.le_of_ble_eq_true rfl⟩) (ok_mem hok1 (by decide)) (ok_Ro hok1) rfl rfl rfl rfl (Nat.le_of_ble_eq_true rfl) (Nat.zero_le _) (Nat.zero_le _) (fun f1 hokw1 => ?_)
  refine pg_iconst (pc := 7) (v := 0) hC dX4_fault_7 (by decide) ?_
  refine pg_istore_n (pc := 8) (vs' := [(1, .int 0), (0, .ref (x 12 2))]) hC dX4_fault_8 rfl (by decide) rfl ?_
  refine pg_sub (vs' := [(0, .ref (x 12 2)), (1, .int 0)]) [1, 0] rfl ?_
  refine pg_loop (pc := 9) (σ := Nat × Nat × (Nat → va_E) × (Nat → Nat → Int32)) (I := fun q => match q with | (m, k, f1, r1) => m + k = pl ∧ pv_ok κ x L f1 (va_up Z 10 r1) ∧ cFlt (Z 9 0) m k r1 = cFlt (Z 9 0) pl 0 (rBegin (Z 10))) (μ := fun q => match q with | (m, k, f1, r1) => m) (VS := fun q => match q with | (m, k, f1, r1) => [(0, .ref (x 12 2)), (1, .int (nI k))]) (FF := fun q => match q with | (m, k, f1, r1) => f1) ?_ (pl, 0, f1, rBegin (Z 10)) ⟨rfl, hokw1, rfl⟩
  intro q hI ih2
  obtain ⟨m, k, f1, r1⟩ := q
  dsimp only at hI ih2 ⊢
  have hI2 := hI
  obtain ⟨hmk, hok1, hF⟩ := hI
  refine pg_iload_n (pc := 9) hC dX4_fault_9 1 rfl rfl ?_
  refine pg_aload_n (pc := 10) hC dX4_fault_10 0 rfl rfl ?_
  refine pgX_get4 (pc := 11) hC dX4_fault_11 (List.mem_of_getElem? (i := 2) rfl) miX4_fault_X4 hok1 ?_
  refine pgP_geti (pc := 14) (v := nI pl) hC dX4_fault_14 1 (List.mem_of_getElem? (i := 3) rfl) miX4_fault_X1 (ogI hok1 9) (by decide) hpl ?_
  refine pg_icmp_geN (pc := 17) hC 47 dX4_fault_17 (by decide) (k) (pl) rfl rfl (by omega) (by omega) (fun c3 => ?_) (fun c3 => ?_)
  · skip
    refine pg_aload_n (pc := 47) hC dX4_fault_47 0 rfl rfl ?_
    refine pgX_get5 (pc := 48) hC dX4_fault_48 (List.mem_of_getElem? (i := 1) rfl) miX4_fault_X4 hok1 ?_
    refine pg_callVRi (pc := 51) (As := []) (rest := []) hC dX4_fault_51 (cX2_canEnd_c l hok1) (cwV 0 hC.2.2.2.2.1 gX4_fault_X2_canEnd rfl rfl rfl (by decide +kernel) ⟨Nat.le_of_ble_eq_true rfl, Nat.le_of_ble_eq_true rfl⟩) (ok_mem hok1 (by decide)) (ok_Ro hok1) rfl rfl rfl rfl (Nat.le_of_ble_eq_true rfl) (Nat.zero_le _) (Nat.zero_le _) ?_
    refine pg_if_eq (pc := 54) hC 62 dX4_fault_54 (by decide)  (fun c4 => ?_) (fun c4 => ?_)
    · skip
      refine pg_aload_n (pc := 62) hC dX4_fault_62 0 rfl rfl ?_
      refine pgX_get4 (pc := 63) hC dX4_fault_63 (List.mem_of_getElem? (i := 2) rfl) miX4_fault_X4 hok1 ?_
      refine pgP_geti (pc := 66) (v := nI pl) hC dX4_fault_66 1 (List.mem_of_getElem? (i := 3) rfl) miX4_fault_X1 (ogI hok1 9) (by decide) hpl ?_
      exact pg_iret (pc := 69) hC dX4_fault_69 rfl ⟨(by unfold tFault; rw [← hF, show m = 0 by omega]; simp only [cFlt, c4, if_true, if_false]; try rw [show k = pl by omega]), rfl, (by unfold tFault; rw [← hF, show m = 0 by omega]; exact hok1)⟩
    · skip
      refine pg_bipush (pc := 57) (v := (-6)) hC dX4_fault_57 (by decide) ?_
      refine pg_goto (pc := 59) hC 69 dX4_fault_59 (by decide) ?_
      exact pg_iret (pc := 69) hC dX4_fault_69 rfl ⟨(by unfold tFault; rw [← hF, show m = 0 by omega]; simp only [cFlt, c4, if_true, if_false]; try rw [show k = pl by omega]), rfl, (by unfold tFault; rw [← hF, show m = 0 by omega]; exact hok1)⟩
  · skip
    obtain ⟨m, rfl⟩ : ∃ q, m = q + 1 := ⟨m - 1, by omega⟩
    refine pg_aload_n (pc := 20) hC dX4_fault_20 0 rfl rfl ?_
    refine pgX_get5 (pc := 21) hC dX4_fault_21 (List.mem_of_getElem? (i := 1) rfl) miX4_fault_X4 hok1 ?_
    refine pg_aload_n (pc := 24) hC dX4_fault_24 0 rfl rfl ?_
    refine pgX_get4 (pc := 25) hC dX4_fault_25 (List.mem_of_getElem? (i := 2) rfl) miX4_fault_X4 hok1 ?_
    refine pgP_geta (pc := 28) hC dX4_fault_28 0 (List.mem_of_getElem? (i := 4) rfl) miX4_fault_X1 (ogI hok1 9) (by decide) ?_
    refine pg_iload_n (pc := 31) hC dX4_fault_31 1 rfl rfl ?_
    refine pgP_cald (pc := 32) (v := Z 9 0 k) hC dX4_fault_32 (k) (ogI hok1 9) rfl (by omega) rfl ?_
    refine pg_callVWi (pc := 33) (As := [.int (Z 9 0 k)]) (rest := []) hC dX4_fault_33 (cX2_takes_c l hok1 (Z 9 0 k)) (cwV 1 hC.2.2.2.2.1 gX4_fault_X2_takes rfl rfl rfl (by decide +kernel) ⟨Nat.le_of_ble_eq_true rfl, Nat.le_of_ble_eq_true rfl⟩) (ok_mem hok1 (by decide)) (ok_Ro hok1) rfl rfl rfl rfl (Nat.le_of_ble_eq_true rfl) (Nat.zero_le _) (Nat.zero_le _) (fun f2 hokw2 => ?_)
    refine pg_if_ne (pc := 36) hC 41 dX4_fault_36 (by decide)  (fun c5 => ?_) (fun c5 => ?_)
    · skip
      refine pg_iinc (pc := 41) (v := nI (k + 1)) (vs' := [(1, .int (nI (k + 1))), (0, .ref (x 12 2))]) hC dX4_fault_41 1 rfl (nI_add (k) 1) (by decide) rfl ?_
      refine pg_goto (pc := 44) hC 9 dX4_fault_44 (by decide) ?_
      refine pg_sub (vs' := [(0, .ref (x 12 2)), (1, .int (nI (k + 1)))]) [1, 0] rfl ?_
      exact ih2 (m, k + 1, f2, (rT r1 (Z 9 0 k))) ⟨(show m + (k + 1) = pl by omega), hokw2, hF ▸ by simp only [cFlt, c5, if_false]⟩ (by omega)
    · skip
      refine pg_iload_n (pc := 39) hC dX4_fault_39 1 rfl rfl ?_
      exact pg_iret (pc := 40) hC dX4_fault_40 rfl ⟨(by unfold tFault; rw [← hF]; simp only [cFlt, c5, if_true]), rfl, (by unfold tFault; rw [← hF, show cFlt (Z 9 0) (m + 1) k r1 = (nI k, rT r1 (Z 9 0 k)) from by simp only [cFlt, c5, if_true]]; exact hokw2)⟩
abbrev rmX4_stampsForWhatWasRead : Room := { frames := 5, cells := 0, slots := 0, locals := 120 }
theorem miX4_stampsForWhatWasRead_X2 : ∀ w ∈ wsX20, w ∈ wsX4_stampsForWhatWasRead := fun _ h => List.mem_cons_of_mem _ (List.mem_append_left _ (List.mem_append_right _ h))
theorem miX4_stampsForWhatWasRead_X4 : ∀ w ∈ wsX40, w ∈ wsX4_stampsForWhatWasRead := fun _ h => List.mem_cons_of_mem _ (List.mem_append_left _ (List.mem_append_left _ (List.mem_append_right _ h)))
set_option maxHeartbeats 2000000 in
set_option maxRecDepth 20000 in
theorem cX4_stampsForWhatWasRead_c (l : Launch) {κ : pv_Kt} {L : List Nat} {f : Nat → va_E} {x : Nat → Nat → Nat} {Z : Nat → Nat → Nat → Int32} (hok : pv_ok κ x L f Z) (p e : Nat) (wt : Int32) (hp10 : p < 10) (he12 : e < 12) (hp : Z 10 1 0 = nI p) (he : Z 10 2 0 = nI e) (hwt : Z 10 4 0 = wt) (hw : wt = -6 ∨ ∃ w : Nat, w < 10 ∧ wt = nI w) : pv_Mi l κ yX4_stampsForWhatWasRead wsX4_stampsForWhatWasRead rmX4_stampsForWhatWasRead L f [.ref (x 12 2)] 0 0 (pv_Wi κ x L (va_up Z 0 (oZ (Z 0) (Z 10))) (oB (Z 0) (Z 10))) := by
  refine pv_startI (cc := cX4_stampsForWhatWasRead) (maxL := 2) (ret := (some .int)) (by decide) rfl (Nat.le_of_ble_eq_true rfl) (fun A0 P0 E0 S0 M0 a0 B0 T0 C0 hC => ?_)
  refine pg_sub (vs' := [(0, .ref (x 12 2))]) [0] rfl ?_
  have clp : cl (nI p) = p := cl_nI (by omega)
  have cle : cl (nI e) = e := cl_nI (by omega)
  refine pg_aload_n (pc := 0) hC dX4_stampsForWhatWasRead_0 0 rfl rfl ?_
  refine pgX_get0 (pc := 1) hC dX4_stampsForWhatWasRead_1 (List.mem_of_getElem? (i := 1) rfl) miX4_stampsForWhatWasRead_X4 hok ?_
  refine pg_aload_n (pc := 4) hC dX4_stampsForWhatWasRead_4 0 rfl rfl ?_
  refine pgX_get5 (pc := 5) hC dX4_stampsForWhatWasRead_5 (List.mem_of_getElem? (i := 2) rfl) miX4_stampsForWhatWasRead_X4 hok ?_
  refine pgR_geti (pc := 8) (v := nI e) hC dX4_stampsForWhatWasRead_8 2 (List.mem_of_getElem? (i := 3) rfl) miX4_stampsForWhatWasRead_X2 (ogI hok 10) (by decide) he ?_
  refine pg_callVRi (pc := 11) (As := [.int (nI e)]) (rest := []) hC dX4_stampsForWhatWasRead_11 (cX3_hasExcuse_c l (by decide) (ogI hok 0) (nI e)) (cwV 1 hC.2.2.2.2.1 gX4_stampsForWhatWasRead_X3_hasExcuse rfl rfl rfl (by decide +kernel) ⟨Nat.le_of_ble_eq_true rfl, Nat.le_of_ble_eq_true rfl⟩) (ok_Sm (ogI hok 0) (by decide) 1 (by decide)) (og_So (ogI hok 0) (by decide)) rfl rfl rfl rfl (Nat.le_of_ble_eq_true rfl) (Nat.zero_le _) (Nat.zero_le _) ?_
  refine pg_if_ne (pc := 14) hC 19 dX4_stampsForWhatWasRead_14 (by decide)  (fun c1 => ?_) (fun c1 => ?_)
  · skip
    refine pg_aload_n (pc := 19) hC dX4_stampsForWhatWasRead_19 0 rfl rfl ?_
    refine pgX_get0 (pc := 20) hC dX4_stampsForWhatWasRead_20 (List.mem_of_getElem? (i := 1) rfl) miX4_stampsForWhatWasRead_X4 hok ?_
    refine pg_aload_n (pc := 23) hC dX4_stampsForWhatWasRead_23 0 rfl rfl ?_
    refine pgX_get5 (pc := 24) hC dX4_stampsForWhatWasRead_24 (List.mem_of_getElem? (i := 2) rfl) miX4_stampsForWhatWasRead_X4 hok ?_
    refine pgR_geti (pc := 27) (v := nI p) hC dX4_stampsForWhatWasRead_27 1 (List.mem_of_getElem? (i := 4) rfl) miX4_stampsForWhatWasRead_X2 (ogI hok 10) (by decide) hp ?_
    refine pg_aload_n (pc := 30) hC dX4_stampsForWhatWasRead_30 0 rfl rfl ?_
    refine pgX_get5 (pc := 31) hC dX4_stampsForWhatWasRead_31 (List.mem_of_getElem? (i := 2) rfl) miX4_stampsForWhatWasRead_X4 hok ?_
    refine pgR_geti (pc := 34) (v := nI e) hC dX4_stampsForWhatWasRead_34 2 (List.mem_of_getElem? (i := 3) rfl) miX4_stampsForWhatWasRead_X2 (ogI hok 10) (by decide) he ?_
    refine pg_aload_n (pc := 37) hC dX4_stampsForWhatWasRead_37 0 rfl rfl ?_
    refine pgX_get5 (pc := 38) hC dX4_stampsForWhatWasRead_38 (List.mem_of_getElem? (i := 2) rfl) miX4_stampsForWhatWasRead_X4 hok ?_
    refine pgR_geti (pc := 41) (v := wt) hC dX4_stampsForWhatWasRead_41 4 (List.mem_of_getElem? (i := 5) rfl) miX4_stampsForWhatWasRead_X2 (ogI hok 10) (by decide) hwt ?_
    refine pg_aload_n (pc := 44) hC dX4_stampsForWhatWasRead_44 0 rfl rfl ?_
    refine pgX_get5 (pc := 45) hC dX4_stampsForWhatWasRead_45 (List.mem_of_getElem? (i := 2) rfl) miX4_stampsForWhatWasRead_X4 hok ?_
    refine pgR_geti (pc := 48) (v := Z 10 3 0) hC dX4_stampsForWhatWasRead_48 3 (List.mem_of_getElem? (i := 6) rfl) miX4_stampsForWhatWasRead_X2 (ogI hok 10) (by decide) rfl ?_
    have hok2 := ogI hok 0
    refine pg_callVWi (pc := 51) (As := [.int (nI p), .int (nI e), .int wt, .int (Z 10 3 0)]) (rest := []) hC dX4_stampsForWhatWasRead_51 (cX3_takeOffer_c l (by decide) hok2 (p) (e) (by omega) (by omega) wt hw (Z 10 3 0)) (cwV 4 hC.2.2.2.2.1 gX4_stampsForWhatWasRead_X3_takeOffer rfl rfl rfl (by decide +kernel) ⟨Nat.le_of_ble_eq_true rfl, Nat.le_of_ble_eq_true rfl⟩) (ok_Sm hok2 (by decide) 1 (by decide)) (og_So hok2 (by decide)) rfl rfl rfl rfl (Nat.le_of_ble_eq_true rfl) (Nat.zero_le _) (Nat.zero_le _) (fun f1 hokw1 => ?_)
    refine pg_istore_n (pc := 54) (vs' := [(1, .int (sReason (Z 0) (p) (e) wt (Z 10 3 0))), (0, .ref (x 12 2))]) hC dX4_stampsForWhatWasRead_54 rfl (by decide) rfl ?_
    refine pg_iload_n (pc := 55) hC dX4_stampsForWhatWasRead_55 0 rfl rfl ?_
    refine pg_if_ne (pc := 56) hC 63 dX4_stampsForWhatWasRead_56 (by decide)  (fun c3 => ?_) (fun c3 => ?_)
    · skip
      refine pg_iconst (pc := 63) (v := 0) hC dX4_stampsForWhatWasRead_63 (by decide) ?_
      exact pg_iret (pc := 64) hC dX4_stampsForWhatWasRead_64 rfl ⟨(by unfold oB; rw [hp, he, hwt, clp, cle]; simp only [c1, c3, if_true, if_false]), rfl, (by rw [show oZ (Z 0) (Z 10) = sOffer (Z 0) p e wt (Z 10 3 0) from by unfold oZ; rw [hp, he, hwt, clp, cle]; simp only [c1, if_true, if_false]]; exact hokw1)⟩
    · skip
      refine pg_iconst (pc := 59) (v := 1) hC dX4_stampsForWhatWasRead_59 (by decide) ?_
      refine pg_goto (pc := 60) hC 64 dX4_stampsForWhatWasRead_60 (by decide) ?_
      exact pg_iret (pc := 64) hC dX4_stampsForWhatWasRead_64 rfl ⟨(by unfold oB; rw [hp, he, hwt, clp, cle]; simp only [c1, c3, if_true, if_false]), rfl, (by rw [show oZ (Z 0) (Z 10) = sOffer (Z 0) p e wt (Z 10 3 0) from by unfold oZ; rw [hp, he, hwt, clp, cle]; simp only [c1, if_true, if_false]]; exact hokw1)⟩
  · skip
    refine pg_iconst (pc := 17) (v := 0) hC dX4_stampsForWhatWasRead_17 (by decide) ?_
    exact pg_iret (pc := 18) hC dX4_stampsForWhatWasRead_18 rfl ⟨(by unfold oB; rw [hp, he, hwt, clp, cle]; simp only [c1, if_true, if_false]), rfl, (by rw [show oZ (Z 0) (Z 10) = Z 0 from by unfold oZ; rw [hp, he, hwt, clp, cle]; simp only [c1, if_true, if_false]]; rw [va_up_i]; exact hok)⟩
abbrev rmX4_read : Room := { frames := 6, cells := 0, slots := 0, locals := 141 }
theorem miX4_read_X1 : ∀ w ∈ wsX10, w ∈ wsX4_read := fun _ h => List.mem_cons_of_mem _ (List.mem_append_left _ (List.mem_append_left _ (List.mem_append_left _ (List.mem_append_right _ h))))
theorem miX4_read_X4 : ∀ w ∈ wsX40, w ∈ wsX4_read := fun _ h => List.mem_cons_of_mem _ (List.mem_append_left _ (List.mem_append_left _ (List.mem_append_left _ (List.mem_append_left _ (List.mem_append_right _ h)))))
set_option maxHeartbeats 2000000 in
set_option maxRecDepth 20000 in
theorem cX4_read_c (l : Launch) {κ : pv_Kt} {L : List Nat} {f : Nat → va_E} {x : Nat → Nat → Nat} {Z : Nat → Nat → Nat → Int32} (hok : pv_ok κ x L f Z) (nx kp : Nat) (hnx : Z 12 1 0 = nI nx) (hnx6 : nx < 6) (hkp : Z 12 2 0 = nI kp) (hkp6 : kp ≤ 6) (pl : Nat) (hpl : Z 9 1 0 = nI pl) (hpl60 : pl ≤ 60)  : pv_Mi l κ yX4_read wsX4_read rmX4_read L f [.ref (x 12 2)] 0 0 (pv_Wi κ x L (tReadZ Z nx kp pl) (tRead Z nx kp pl)) := by
  refine pv_startI (cc := cX4_read) (maxL := 3) (ret := (some .int)) (by decide) rfl (Nat.le_of_ble_eq_true rfl) (fun A0 P0 E0 S0 M0 a0 B0 T0 C0 hC => ?_)
  refine pg_sub (vs' := [(0, .ref (x 12 2))]) [0] rfl ?_
  refine pg_aload_n (pc := 0) hC dX4_read_0 0 rfl rfl ?_
  refine pg_callVWi (pc := 1) (As := []) (rest := []) hC dX4_read_1 (cX4_fault_c l hok pl hpl hpl60) (cwV 0 hC.2.2.2.2.1 gX4_read_X4_fault rfl rfl rfl (by decide +kernel) ⟨Nat.le_of_ble_eq_true rfl, Nat.le_of_ble_eq_true rfl⟩) (ok_mem hok (by decide)) (ok_Xo hok) rfl rfl rfl rfl (Nat.le_of_ble_eq_true rfl) (Nat.zero_le _) (Nat.zero_le _) (fun f1 hokw1 => ?_)
  refine pg_bipush (pc := 4) (v := (-6)) hC dX4_read_4 (by decide) ?_
  refine pg_icmp_eq (pc := 6) hC 12 dX4_read_6 (by decide)  (fun c1 => ?_) (fun c1 => ?_)
  · skip
    refine pg_aload_n (pc := 12) hC dX4_read_12 0 rfl rfl ?_
    refine pgX_get1 (pc := 13) hC dX4_read_13 (List.mem_of_getElem? (i := 1) rfl) miX4_read_X4 hokw1 ?_
    refine pg_aload_n (pc := 16) hC dX4_read_16 0 rfl rfl ?_
    refine pgX_get0 (pc := 17) hC dX4_read_17 (List.mem_of_getElem? (i := 2) rfl) miX4_read_X4 hokw1 ?_
    refine pg_callVWv (pc := 20) (As := [.ref (x 0 1)]) (rest := []) hC dX4_read_20 (cX0_keep_c l hokw1 nx kp hnx hnx6 hkp hkp6) (cwV 1 hC.2.2.2.2.1 gX4_read_X0_keep rfl rfl rfl (by decide +kernel) ⟨Nat.le_of_ble_eq_true rfl, Nat.le_of_ble_eq_true rfl⟩) (ok_mem hokw1 (by decide)) (ok_Ho hokw1) rfl rfl rfl rfl (Nat.le_of_ble_eq_true rfl) (Nat.zero_le _) (Nat.zero_le _) (fun f2 hokw2 => ?_)
    have hokk2 := sKeep_ok hokw2
    obtain ⟨K, hKd⟩ : ∃ K, K = tReadK Z nx kp pl := ⟨_, rfl⟩
    have hK9 : K 9 = Z 9 := by rw [hKd]; exact tReadK_9 hnx6
    have hokK : pv_ok κ x L f2 (va_up K 0 (Z 0)) := by rw [hKd]; exact hokk2
    have hplK : K 9 1 0 = nI pl := by rw [hK9]; exact hpl
    refine pg_iconst (pc := 23) (v := 0) hC dX4_read_23 (by decide) ?_
    refine pg_istore_n (pc := 24) (vs' := [(1, .int 0), (0, .ref (x 12 2))]) hC dX4_read_24 rfl (by decide) rfl ?_
    refine pg_aload_n (pc := 25) hC dX4_read_25 1 rfl rfl ?_
    refine pgX_get5 (pc := 26) hC dX4_read_26 (List.mem_of_getElem? (i := 3) rfl) miX4_read_X4 hokK ?_
    have hok3 : pv_ok κ x L f2 (va_up (va_up K 0 (Z 0)) 10 (K 10)) := ogI hokK 10
    refine pg_callVWv (pc := 29) (As := []) (rest := []) hC dX4_read_29 (cX2_begin_c l hok3 ) (cwV 0 hC.2.2.2.2.1 gX4_read_X2_begin rfl rfl rfl (by decide +kernel) ⟨Nat.le_of_ble_eq_true rfl, Nat.le_of_ble_eq_true rfl⟩) (ok_mem hok3 (by decide)) (ok_Ro hok3) rfl rfl rfl rfl (Nat.le_of_ble_eq_true rfl) (Nat.zero_le _) (Nat.zero_le _) (fun f3 hokw3 => ?_)
    refine pg_iconst (pc := 32) (v := 0) hC dX4_read_32 (by decide) ?_
    refine pg_istore_n (pc := 33) (vs' := [(2, .int 0), (1, .int 0), (0, .ref (x 12 2))]) hC dX4_read_33 rfl (by decide) rfl ?_
    refine pg_sub (vs' := [(0, .ref (x 12 2)), (1, .int 0), (2, .int 0)]) [2, 1, 0] rfl ?_
    refine pg_loop (pc := 34) (σ := Nat × Nat × (Nat → va_E) × (Nat → Nat → Int32) × (Nat → Nat → Int32) × Int32) (I := fun q => match q with | (m, k, f1, z1, r1, t1) => m + k = pl ∧ pv_ok κ x L f1 (va_up (va_up K 0 z1) 10 r1) ∧ rInv r1 ∧ (cFlt (Z 9 0) m k r1).1 = -6 ∧ cRd (Z 9 0) m k z1 r1 t1 = cRd (Z 9 0) pl 0 (Z 0) (rBegin (K 10)) 0) (μ := fun q => match q with | (m, k, f1, z1, r1, t1) => m) (VS := fun q => match q with | (m, k, f1, z1, r1, t1) => [(0, .ref (x 12 2)), (1, .int t1), (2, .int (nI k))]) (FF := fun q => match q with | (m, k, f1, z1, r1, t1) => f1) ?_ (pl, 0, f3, Z 0, rBegin (K 10), 0) ⟨rfl, hokw3, rInv_begin _, rd_begin hKd hnx6 c1, rfl⟩
    intro q hI ih4
    obtain ⟨m, k, f1, z1, r1, t1⟩ := q
    dsimp only at hI ih4 ⊢
    have hI2 := hI
    obtain ⟨hmk, hok1, hI1, hE, hF⟩ := hI
    refine pg_iload_n (pc := 34) hC dX4_read_34 2 rfl rfl ?_
    refine pg_aload_n (pc := 35) hC dX4_read_35 0 rfl rfl ?_
    refine pgX_get4 (pc := 36) hC dX4_read_36 (List.mem_of_getElem? (i := 4) rfl) miX4_read_X4 hok1 ?_
    refine pgP_geti (pc := 39) (v := nI pl) hC dX4_read_39 1 (List.mem_of_getElem? (i := 5) rfl) miX4_read_X1 (ogI hok1 9) (by decide) hplK ?_
    refine pg_icmp_geN (pc := 42) hC 89 dX4_read_42 (by decide) (k) (pl) rfl rfl (by omega) (by omega) (fun c5 => ?_) (fun c5 => ?_)
    · skip
      obtain rfl : m = 0 := by omega
      refine pg_iload_n (pc := 89) hC dX4_read_89 1 rfl rfl ?_
      refine pg_aload_n (pc := 90) hC dX4_read_90 0 rfl rfl ?_
      obtain ⟨pq6, eq6, hp10q6, he12q6, hppq6, heeq6, hwwq6⟩ := rFull_end hI1 (cFlt_0 (by omega) hE)
      refine pg_callVWi (pc := 91) (As := []) (rest := [.int t1]) hC dX4_read_91 (cX4_stampsForWhatWasRead_c l hok1 pq6 eq6 _ hp10q6 he12q6 hppq6 heeq6 rfl hwwq6) (cwV 0 hC.2.2.2.2.1 gX4_read_X4_stampsForWhatWasRead rfl rfl rfl (by decide +kernel) ⟨Nat.le_of_ble_eq_true rfl, Nat.le_of_ble_eq_true rfl⟩) (ok_mem hok1 (by decide)) (ok_Xo hok1) rfl rfl rfl rfl (Nat.le_of_ble_eq_true rfl) (Nat.zero_le _) (Nat.zero_le _) (fun f4 hokw4 => ?_)
      have hoks7 : pv_ok κ x L f4 (va_up (va_up K 0 (oZ z1 r1)) 10 r1) := by have q := hokw4; rw [va_up_sw _ _ _ (by decide), va_up_up] at q; exact q
      refine pg_iadd (pc := 94) (v := t1 + (oB z1 r1)) hC dX4_read_94 rfl ?_
      refine pg_istore_n (pc := 95) (vs' := [(1, .int (t1 + (oB z1 r1))), (0, .ref (x 12 2)), (2, .int (nI k))]) hC dX4_read_95 rfl (by decide) rfl ?_
      refine pg_aload_n (pc := 96) hC dX4_read_96 1 rfl rfl ?_
      refine pgX_get4 (pc := 97) hC dX4_read_97 (List.mem_of_getElem? (i := 4) rfl) miX4_read_X4 hoks7 ?_
      refine pg_iconst (pc := 100) (v := 0) hC dX4_read_100 (by decide) ?_
      have hok8 : pv_ok κ x L f4 (va_up (va_up (va_up K 0 (oZ z1 r1)) 10 r1) 9 ((va_up K 0 (oZ z1 r1)) 9)) := ogI hoks7 9
      refine pgP_puti (pc := 101) hC dX4_read_101 1 (List.mem_of_getElem? (i := 5) rfl) miX4_read_X1 hok8 (by decide) (fun f5 hokw5 => ?_)
      refine pg_iload_n (pc := 104) hC dX4_read_104 0 rfl rfl ?_
      exact pg_iret (pc := 105) hC dX4_read_105 rfl ⟨(by unfold tRead tReadD; rw [if_pos c1, ← hKd, ← hF]; rfl), rfl, (by unfold tReadZ tReadD; rw [if_pos c1, ← hKd, ← hF]; exact hokw5)⟩
    · skip
      obtain ⟨m, rfl⟩ : ∃ q, m = q + 1 := ⟨m - 1, by omega⟩
      obtain ⟨hb, hE1⟩ := cFlt_s (by omega) hE
      refine pg_aload_n (pc := 45) hC dX4_read_45 0 rfl rfl ?_
      refine pgX_get4 (pc := 46) hC dX4_read_46 (List.mem_of_getElem? (i := 4) rfl) miX4_read_X4 hok1 ?_
      refine pgP_geta (pc := 49) hC dX4_read_49 0 (List.mem_of_getElem? (i := 6) rfl) miX4_read_X1 (ogI hok1 9) (by decide) ?_
      refine pg_iload_n (pc := 52) hC dX4_read_52 2 rfl rfl ?_
      refine pgP_cald (pc := 53) (v := Z 9 0 k) hC dX4_read_53 (k) (ogI hok1 9) rfl (by omega) (congrFun (congrFun hK9 0) k) ?_
      refine pg_bipush (pc := 54) (v := 44) hC dX4_read_54 (by decide) ?_
      refine pg_icmp_ne (pc := 56) hC 66 dX4_read_56 (by decide)  (fun c9 => ?_) (fun c9 => ?_)
      · skip
        refine pg_aload_n (pc := 66) hC dX4_read_66 0 rfl rfl ?_
        refine pgX_get5 (pc := 67) hC dX4_read_67 (List.mem_of_getElem? (i := 3) rfl) miX4_read_X4 hok1 ?_
        refine pg_aload_n (pc := 70) hC dX4_read_70 0 rfl rfl ?_
        refine pgX_get4 (pc := 71) hC dX4_read_71 (List.mem_of_getElem? (i := 4) rfl) miX4_read_X4 hok1 ?_
        refine pgP_geta (pc := 74) hC dX4_read_74 0 (List.mem_of_getElem? (i := 6) rfl) miX4_read_X1 (ogI hok1 9) (by decide) ?_
        refine pg_iload_n (pc := 77) hC dX4_read_77 2 rfl rfl ?_
        refine pgP_cald (pc := 78) (v := Z 9 0 k) hC dX4_read_78 (k) (ogI hok1 9) rfl (by omega) (congrFun (congrFun hK9 0) k) ?_
        refine pg_callVWi (pc := 79) (As := [.int (Z 9 0 k)]) (rest := []) hC dX4_read_79 (cX2_takes_c l hok1 (Z 9 0 k)) (cwV 1 hC.2.2.2.2.1 gX4_read_X2_takes rfl rfl rfl (by decide +kernel) ⟨Nat.le_of_ble_eq_true rfl, Nat.le_of_ble_eq_true rfl⟩) (ok_mem hok1 (by decide)) (ok_Ro hok1) rfl rfl rfl rfl (Nat.le_of_ble_eq_true rfl) (Nat.zero_le _) (Nat.zero_le _) (fun f6 hokw6 => ?_)
        refine pg_pop (pc := 82) hC dX4_read_82 rfl ?_
        refine pg_iinc (pc := 83) (v := nI (k + 1)) (vs' := [(2, .int (nI (k + 1))), (0, .ref (x 12 2)), (1, .int t1)]) hC dX4_read_83 2 rfl (nI_add (k) 1) (by decide) rfl ?_
        refine pg_goto (pc := 86) hC 34 dX4_read_86 (by decide) ?_
        refine pg_sub (vs' := [(0, .ref (x 12 2)), (1, .int t1), (2, .int (nI (k + 1)))]) [1, 2, 0] rfl ?_
        exact ih4 (m, k + 1, f6, z1, (rT r1 (Z 9 0 k)), t1) ⟨(show m + (k + 1) = pl by omega), hokw6, rInv_next hI1 hb, hE1, by rw [← hF]; simp only [cRd, c9, if_true, if_false]⟩ (by omega)
      · skip
        refine pg_iload_n (pc := 59) hC dX4_read_59 1 rfl rfl ?_
        refine pg_aload_n (pc := 60) hC dX4_read_60 0 rfl rfl ?_
        obtain ⟨pq10, eq10, hp10q10, he12q10, hppq10, heeq10, hwwq10⟩ := rFull_comma hI1 (by rw [← c9]; exact hb)
        refine pg_callVWi (pc := 61) (As := []) (rest := [.int t1]) hC dX4_read_61 (cX4_stampsForWhatWasRead_c l hok1 pq10 eq10 _ hp10q10 he12q10 hppq10 heeq10 rfl hwwq10) (cwV 0 hC.2.2.2.2.1 gX4_read_X4_stampsForWhatWasRead rfl rfl rfl (by decide +kernel) ⟨Nat.le_of_ble_eq_true rfl, Nat.le_of_ble_eq_true rfl⟩) (ok_mem hok1 (by decide)) (ok_Xo hok1) rfl rfl rfl rfl (Nat.le_of_ble_eq_true rfl) (Nat.zero_le _) (Nat.zero_le _) (fun f7 hokw7 => ?_)
        have hoks11 : pv_ok κ x L f7 (va_up (va_up K 0 (oZ z1 r1)) 10 r1) := by have q := hokw7; rw [va_up_sw _ _ _ (by decide), va_up_up] at q; exact q
        refine pg_iadd (pc := 64) (v := t1 + oB z1 r1) hC dX4_read_64 rfl ?_
        refine pg_istore_n (pc := 65) (vs' := [(1, .int (t1 + oB z1 r1)), (0, .ref (x 12 2)), (2, .int (nI k))]) hC dX4_read_65 rfl (by decide) rfl ?_
        refine pg_aload_n (pc := 66) hC dX4_read_66 1 rfl rfl ?_
        refine pgX_get5 (pc := 67) hC dX4_read_67 (List.mem_of_getElem? (i := 3) rfl) miX4_read_X4 hoks11 ?_
        refine pg_aload_n (pc := 70) hC dX4_read_70 1 rfl rfl ?_
        refine pgX_get4 (pc := 71) hC dX4_read_71 (List.mem_of_getElem? (i := 4) rfl) miX4_read_X4 hoks11 ?_
        refine pgP_geta (pc := 74) hC dX4_read_74 0 (List.mem_of_getElem? (i := 6) rfl) miX4_read_X1 (ogI hoks11 9) (by decide) ?_
        refine pg_iload_n (pc := 77) hC dX4_read_77 2 rfl rfl ?_
        refine pgP_cald (pc := 78) (v := Z 9 0 k) hC dX4_read_78 (k) (ogI hoks11 9) rfl (by omega) (congrFun (congrFun hK9 0) k) ?_
        refine pg_callVWi (pc := 79) (As := [.int (Z 9 0 k)]) (rest := []) hC dX4_read_79 (cX2_takes_c l hoks11 (Z 9 0 k)) (cwV 1 hC.2.2.2.2.1 gX4_read_X2_takes rfl rfl rfl (by decide +kernel) ⟨Nat.le_of_ble_eq_true rfl, Nat.le_of_ble_eq_true rfl⟩) (ok_mem hoks11 (by decide)) (ok_Ro hoks11) rfl rfl rfl rfl (Nat.le_of_ble_eq_true rfl) (Nat.zero_le _) (Nat.zero_le _) (fun f8 hokw8 => ?_)
        refine pg_pop (pc := 82) hC dX4_read_82 rfl ?_
        refine pg_iinc (pc := 83) (v := nI (k + 1)) (vs' := [(2, .int (nI (k + 1))), (1, .int (t1 + oB z1 r1)), (0, .ref (x 12 2))]) hC dX4_read_83 2 rfl (nI_add (k) 1) (by decide) rfl ?_
        refine pg_goto (pc := 86) hC 34 dX4_read_86 (by decide) ?_
        refine pg_sub (vs' := [(0, .ref (x 12 2)), (1, .int (t1 + oB z1 r1)), (2, .int (nI (k + 1)))]) [2, 1, 0] rfl ?_
        exact ih4 (m, k + 1, f8, oZ z1 r1, (rT r1 (Z 9 0 k)), t1 + oB z1 r1) ⟨(show m + (k + 1) = pl by omega), hokw8, rInv_next hI1 hb, hE1, by rw [← hF]; simp only [cRd, c9, if_true, if_false]⟩ (by omega)
  · skip
    refine pg_bipush (pc := 9) (v := (-3)) hC dX4_read_9 (by decide) ?_
    exact pg_iret (pc := 11) hC dX4_read_11 rfl ⟨(by unfold tRead; rw [if_neg c1]), rfl, (by unfold tReadZ; rw [if_neg c1]; exact hokw1)⟩
