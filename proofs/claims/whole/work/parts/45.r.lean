abbrev rmX5_sees : Room := { frames := 1, cells := 0, slots := 0, locals := 22 }
theorem miX5_sees_X5 : ∀ w ∈ wsX50, w ∈ wsX5_sees := fun _ h => List.mem_cons_of_mem _ (List.mem_append_right _ h)
set_option maxHeartbeats 2000000 in
set_option maxRecDepth 20000 in
theorem cX5_sees_c (l : Launch) {κ : pv_Kt} {L : List Nat} {f : Nat → va_E} {x : Nat → Nat → Nat} {Z : Nat → Nat → Nat → Int32} {g : Nat → Nat → Int32} (hok : pv_ok κ x L f (va_up Z 11 g)) {ch : Nat → Int32} (hch : g 5 = ch) {s pl : Nat} (hs : g 7 0 = nI s) (hp : g 6 0 = nI pl) (hsp : s ≤ pl) (hpl : pl ≤ 60) (lo hi : Int32) : pv_Mi l κ yX5_sees wsX5_sees rmX5_sees L f [.ref (x 11 2), .int lo, .int hi] 0 0 (pv_R L f (mSees ch s pl lo hi)) := by
  refine pv_startI (cc := cX5_sees) (maxL := 3) (ret := (some .boolean)) (by decide) rfl (Nat.le_of_ble_eq_true rfl) (fun A0 P0 E0 S0 M0 a0 B0 T0 C0 hC => ?_)
  refine pg_sub (vs' := [(0, .ref (x 11 2)), (1, .int lo), (2, .int hi)]) [0, 1, 2] rfl ?_
  refine pg_aload_n (pc := 0) hC dX5_sees_0 0 rfl rfl ?_
  refine pgM_geti (pc := 1) (v := nI s) hC dX5_sees_1 7 (List.mem_of_getElem? (i := 1) rfl) miX5_sees_X5 hok (by decide) hs ?_
  refine pg_aload_n (pc := 4) hC dX5_sees_4 0 rfl rfl ?_
  refine pgM_geti (pc := 5) (v := nI pl) hC dX5_sees_5 6 (List.mem_of_getElem? (i := 2) rfl) miX5_sees_X5 hok (by decide) hp ?_
  refine pg_icmp_geN (pc := 8) hC 32 dX5_sees_8 (by decide) (s) (pl) rfl rfl (by omega) (by omega) (fun c1 => ?_) (fun c1 => ?_)
  · skip
    refine pg_iconst (pc := 32) (v := 0) hC dX5_sees_32 (by decide) ?_
    exact pg_zret (pc := 33) hC dX5_sees_33 rfl rfl ⟨(by unfold mSees; rw [if_neg (show ¬ s < pl by omega)]), rfl⟩
  · skip
    refine pg_aload_n (pc := 11) hC dX5_sees_11 0 rfl rfl ?_
    refine pgM_geta (pc := 12) hC dX5_sees_12 5 (List.mem_of_getElem? (i := 3) rfl) miX5_sees_X5 hok (by decide) ?_
    refine pg_aload_n (pc := 15) hC dX5_sees_15 0 rfl rfl ?_
    refine pgM_geti (pc := 16) (v := nI s) hC dX5_sees_16 7 (List.mem_of_getElem? (i := 1) rfl) miX5_sees_X5 hok (by decide) hs ?_
    refine pgM_iald (pc := 19) (v := ch s) hC dX5_sees_19 5 (s) hok (by decide) (by decide) (by decide) rfl (show s < 60 by omega) (congrFun hch s) ?_
    refine pg_iload_n (pc := 20) hC dX5_sees_20 1 rfl rfl ?_
    refine pg_iload_n (pc := 21) hC dX5_sees_21 2 rfl rfl ?_
    refine pg_callSRi (pc := 22) (As := [.int (ch s), .int lo, .int hi]) (rest := []) hC dX5_sees_22 (cX5_in_c l (ch s) lo hi) (va_cwS 3 hC.2.2.2.2.1 gX5_sees_X5_in rfl rfl rfl (by decide +kernel) ⟨Nat.le_of_ble_eq_true rfl, Nat.le_of_ble_eq_true rfl⟩) rfl rfl (Nat.le_of_ble_eq_true rfl) (Nat.zero_le _) (Nat.zero_le _) ?_
    refine pg_if_eq (pc := 25) hC 32 dX5_sees_25 (by decide)  (fun c2 => ?_) (fun c2 => ?_)
    · skip
      refine pg_iconst (pc := 32) (v := 0) hC dX5_sees_32 (by decide) ?_
      exact pg_zret (pc := 33) hC dX5_sees_33 rfl rfl ⟨(by unfold mSees; rw [if_pos (show s < pl by omega)]; exact c2.symm), rfl⟩
    · skip
      refine pg_iconst (pc := 28) (v := 1) hC dX5_sees_28 (by decide) ?_
      refine pg_goto (pc := 29) hC 33 dX5_sees_29 (by decide) ?_
      exact pg_zret (pc := 33) hC dX5_sees_33 rfl rfl ⟨(by unfold mSees; rw [if_pos (show s < pl by omega)]; exact ((bW_01 _ _ _).resolve_left c2).symm), rfl⟩
abbrev rmX5_takes : Room := { frames := 2, cells := 0, slots := 0, locals := 44 }
theorem miX5_takes_X5 : ∀ w ∈ wsX50, w ∈ wsX5_takes := fun _ h => List.mem_cons_of_mem _ (List.mem_append_right _ h)
set_option maxHeartbeats 2000000 in
set_option maxRecDepth 20000 in
theorem cX5_takes_c (l : Launch) {κ : pv_Kt} {L : List Nat} {f : Nat → va_E} {x : Nat → Nat → Nat} {Z : Nat → Nat → Nat → Int32} {g : Nat → Nat → Int32} (hok : pv_ok κ x L f (va_up Z 11 g)) {ch : Nat → Int32} (hch : g 5 = ch) {s pl : Nat} (hs : g 7 0 = nI s) (hp : g 6 0 = nI pl) (hsp : s ≤ pl) (hpl : pl ≤ 60) (c : Int32) : pv_Mi l κ yX5_takes wsX5_takes rmX5_takes L f [.ref (x 11 2), .int c] 0 0 (pv_Wi κ x L (va_up Z 11 (if mSees ch s pl c c = 0 then zu g 7 0 (nI s) else zu g 7 0 (nI (s + 1)))) (mSees ch s pl c c)) := by
  refine pv_startI (cc := cX5_takes) (maxL := 3) (ret := (some .boolean)) (by decide) rfl (Nat.le_of_ble_eq_true rfl) (fun A0 P0 E0 S0 M0 a0 B0 T0 C0 hC => ?_)
  refine pg_sub (vs' := [(0, .ref (x 11 2)), (1, .int c)]) [0, 1] rfl ?_
  refine pg_aload_n (pc := 0) hC dX5_takes_0 0 rfl rfl ?_
  refine pg_iload_n (pc := 1) hC dX5_takes_1 1 rfl rfl ?_
  refine pg_iload_n (pc := 2) hC dX5_takes_2 1 rfl rfl ?_
  refine pg_callVRi (pc := 3) (As := [.int c, .int c]) (rest := []) hC dX5_takes_3 (cX5_sees_c l hok hch (s := s) hs hp (by omega) hpl c c) (cwV 2 hC.2.2.2.2.1 gX5_takes_X5_sees rfl rfl rfl (by decide +kernel) ⟨Nat.le_of_ble_eq_true rfl, Nat.le_of_ble_eq_true rfl⟩) (ok_mem hok (by decide)) (ok_Mo hok) rfl rfl rfl rfl (Nat.le_of_ble_eq_true rfl) (Nat.zero_le _) (Nat.zero_le _) ?_
  refine pg_istore_n (pc := 6) (vs' := [(2, .int (mSees ch s pl c c)), (0, .ref (x 11 2)), (1, .int c)]) hC dX5_takes_6 rfl (by decide) rfl ?_
  refine pg_aload_n (pc := 7) hC dX5_takes_7 1 rfl rfl ?_
  refine pg_dup (pc := 8) hC dX5_takes_8 rfl ?_
  refine pgM_geti (pc := 9) (v := nI s) hC dX5_takes_9 7 (List.mem_of_getElem? (i := 1) rfl) miX5_takes_X5 hok (by decide) hs ?_
  refine pg_iload_n (pc := 12) hC dX5_takes_12 0 rfl rfl ?_
  refine pg_if_eq (pc := 13) hC 20 dX5_takes_13 (by decide)  (fun c1 => ?_) (fun c1 => ?_)
  · skip
    refine pg_iconst (pc := 20) (v := 0) hC dX5_takes_20 (by decide) ?_
    refine pg_iadd (pc := 21) (v := nI s) hC dX5_takes_21 (Int32.add_zero _) ?_
    refine pgM_puti (pc := 22) hC dX5_takes_22 7 (List.mem_of_getElem? (i := 1) rfl) miX5_takes_X5 hok (by decide) (fun f1 hokw1 => ?_)
    refine pg_iload_n (pc := 25) hC dX5_takes_25 0 rfl rfl ?_
    exact pg_zret (pc := 26) hC dX5_takes_26 rfl (z_01 mSees_01) ⟨rfl, rfl, (by rw [if_pos c1]; exact hokw1)⟩
  · skip
    refine pg_iconst (pc := 16) (v := 1) hC dX5_takes_16 (by decide) ?_
    refine pg_goto (pc := 17) hC 21 dX5_takes_17 (by decide) ?_
    refine pg_iadd (pc := 21) (v := nI (s + 1)) hC dX5_takes_21 (nI_add s 1) ?_
    refine pgM_puti (pc := 22) hC dX5_takes_22 7 (List.mem_of_getElem? (i := 1) rfl) miX5_takes_X5 hok (by decide) (fun f2 hokw2 => ?_)
    refine pg_iload_n (pc := 25) hC dX5_takes_25 0 rfl rfl ?_
    exact pg_zret (pc := 26) hC dX5_takes_26 rfl (z_01 mSees_01) ⟨rfl, rfl, (by rw [if_neg c1]; exact hokw2)⟩
abbrev rmX5_takesOne : Room := { frames := 2, cells := 0, slots := 0, locals := 44 }
theorem miX5_takesOne_X5 : ∀ w ∈ wsX50, w ∈ wsX5_takesOne := fun _ h => List.mem_cons_of_mem _ (List.mem_append_right _ h)
set_option maxHeartbeats 2000000 in
set_option maxRecDepth 20000 in
theorem cX5_takesOne_c (l : Launch) {κ : pv_Kt} {L : List Nat} {f : Nat → va_E} {x : Nat → Nat → Nat} {Z : Nat → Nat → Nat → Int32} {g : Nat → Nat → Int32} (hok : pv_ok κ x L f (va_up Z 11 g)) {ch : Nat → Int32} (hch : g 5 = ch) {s pl : Nat} (hs : g 7 0 = nI s) (hp : g 6 0 = nI pl) (hsp : s ≤ pl) (hpl : pl ≤ 60) (lo hi : Int32) : pv_Mi l κ yX5_takesOne wsX5_takesOne rmX5_takesOne L f [.ref (x 11 2), .int lo, .int hi] 0 0 (pv_Wi κ x L (va_up Z 11 (if mSees ch s pl lo hi = 0 then g else zu g 7 0 (nI (s + 1)))) (if mSees ch s pl lo hi = 0 then -6 else ch s - lo)) := by
  refine pv_startI (cc := cX5_takesOne) (maxL := 3) (ret := (some .int)) (by decide) rfl (Nat.le_of_ble_eq_true rfl) (fun A0 P0 E0 S0 M0 a0 B0 T0 C0 hC => ?_)
  refine pg_sub (vs' := [(0, .ref (x 11 2)), (1, .int lo), (2, .int hi)]) [0, 1, 2] rfl ?_
  refine pg_aload_n (pc := 0) hC dX5_takesOne_0 0 rfl rfl ?_
  refine pg_iload_n (pc := 1) hC dX5_takesOne_1 1 rfl rfl ?_
  refine pg_iload_n (pc := 2) hC dX5_takesOne_2 2 rfl rfl ?_
  refine pg_callVRi (pc := 3) (As := [.int lo, .int hi]) (rest := []) hC dX5_takesOne_3 (cX5_sees_c l hok hch (s := s) hs hp (by omega) hpl lo hi) (cwV 2 hC.2.2.2.2.1 gX5_takesOne_X5_sees rfl rfl rfl (by decide +kernel) ⟨Nat.le_of_ble_eq_true rfl, Nat.le_of_ble_eq_true rfl⟩) (ok_mem hok (by decide)) (ok_Mo hok) rfl rfl rfl rfl (Nat.le_of_ble_eq_true rfl) (Nat.zero_le _) (Nat.zero_le _) ?_
  refine pg_if_ne (pc := 6) hC 12 dX5_takesOne_6 (by decide)  (fun c1 => ?_) (fun c1 => ?_)
  · skip
    have hlt := (mSees_pos c1).1
    refine pg_aload_n (pc := 12) hC dX5_takesOne_12 0 rfl rfl ?_
    refine pg_dup (pc := 13) hC dX5_takesOne_13 rfl ?_
    refine pgM_geti (pc := 14) (v := nI s) hC dX5_takesOne_14 7 (List.mem_of_getElem? (i := 1) rfl) miX5_takesOne_X5 hok (by decide) hs ?_
    refine pg_iconst (pc := 17) (v := 1) hC dX5_takesOne_17 (by decide) ?_
    refine pg_iadd (pc := 18) (v := nI (s + 1)) hC dX5_takesOne_18 (nI_add (s) (1)) ?_
    refine pgM_puti (pc := 19) hC dX5_takesOne_19 7 (List.mem_of_getElem? (i := 1) rfl) miX5_takesOne_X5 hok (by decide) (fun f1 hokw1 => ?_)
    refine pg_aload_n (pc := 22) hC dX5_takesOne_22 0 rfl rfl ?_
    refine pgM_geta (pc := 23) hC dX5_takesOne_23 5 (List.mem_of_getElem? (i := 2) rfl) miX5_takesOne_X5 hokw1 (by decide) ?_
    refine pg_aload_n (pc := 26) hC dX5_takesOne_26 0 rfl rfl ?_
    refine pgM_geti (pc := 27) (v := nI (s + 1)) hC dX5_takesOne_27 7 (List.mem_of_getElem? (i := 1) rfl) miX5_takesOne_X5 hokw1 (by decide) (by simp [zu, zc, va_up]) ?_
    refine pg_iconst (pc := 30) (v := 1) hC dX5_takesOne_30 (by decide) ?_
    refine pg_isub (pc := 31) (v := nI s) hC dX5_takesOne_31 (nI_pred s) ?_
    refine pgM_iald (pc := 32) (v := ch s) hC dX5_takesOne_32 5 (s) hokw1 (by decide) (by decide) (by decide) rfl (show s < 60 by omega) (congrFun hch s) ?_
    refine pg_iload_n (pc := 33) hC dX5_takesOne_33 1 rfl rfl ?_
    refine pg_isub (pc := 34) (v := (ch s) - lo) hC dX5_takesOne_34 rfl ?_
    exact pg_iret (pc := 35) hC dX5_takesOne_35 rfl ⟨(by rw [if_neg c1]), rfl, (by rw [if_neg c1]; exact hokw1)⟩
  · skip
    refine pg_bipush (pc := 9) (v := (-6)) hC dX5_takesOne_9 (by decide) ?_
    exact pg_iret (pc := 11) hC dX5_takesOne_11 rfl ⟨(by rw [if_pos c1]), rfl, (by rw [if_pos c1]; exact hok)⟩
