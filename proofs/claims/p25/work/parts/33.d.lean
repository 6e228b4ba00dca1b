abbrev rmX2_isDigit : Room := { frames := 1, cells := 0, slots := 0, locals := 22 }
set_option maxHeartbeats 2000000 in
set_option maxRecDepth 20000 in
theorem cX2_isDigit_c (l : Launch) {κ : pv_Kt} {L : List Nat} {f : Nat → va_E} (c : Int32) : pv_Mi l κ yX2_isDigit wsX2_isDigit rmX2_isDigit L f [.int c] 0 0 (pv_R L f (rDig c)) := by
  refine pv_startI (cc := cX2_isDigit) (maxL := 1) (ret := (some .boolean)) (by decide) rfl (Nat.le_of_ble_eq_true rfl) (fun A0 P0 E0 S0 M0 a0 B0 T0 C0 hC => ?_)
  refine pg_sub (vs' := [(0, .int c)]) [0] rfl ?_
  refine pg_iload_n (pc := 0) hC dX2_isDigit_0 0 rfl rfl ?_
  refine pg_bipush (pc := 1) (v := 48) hC dX2_isDigit_1 (by decide) ?_
  refine pg_bipush (pc := 3) (v := 57) hC dX2_isDigit_3 (by decide) ?_
  refine pg_callSNRi (pc := 5) (As := [.int c, .int 48, .int 57]) (rest := []) hC dX2_isDigit_5 (cX4_isWithin_c l c 48 57) ⟨va_cnB 3 hC.2.2.2.2.1 gX2_isDigit_X4_isWithin_n54 rfl rfl rfl hC.2.2.2.2.2.2.2.2.2.1.2.1.2.2.1 (hC.2.2.2.2.1 _ (List.mem_of_getElem? (i := 2) rfl)) (by decide +kernel) ⟨Nat.le_of_ble_eq_true rfl, Nat.le_of_ble_eq_true rfl⟩, hC.2.2.2.2.1 _ (List.mem_of_getElem? (i := 1) rfl), trivial⟩ rfl rfl (Nat.le_of_ble_eq_true rfl) (Nat.zero_le _) (Nat.zero_le _) ?_
  exact pg_zret (pc := 8) hC dX2_isDigit_8 rfl (bW_z _ _ _) ⟨(by first | rfl | simp []), rfl⟩
abbrev rmX2_begin : Room := { frames := 0, cells := 0, slots := 0, locals := 0 }
theorem miX2_begin_X2 : ∀ w ∈ wsX20, w ∈ wsX2_begin := fun _ h => List.mem_cons_of_mem _ (List.mem_append_right _ h)
set_option maxHeartbeats 2000000 in
set_option maxRecDepth 20000 in
theorem cX2_begin_c (l : Launch) {κ : pv_Kt} {L : List Nat} {f : Nat → va_E} {x : Nat → Nat → Nat} {Z : Nat → Nat → Nat → Int32} {z : Nat → Nat → Int32} (hok : pv_ok κ x L f (va_up Z 10 z))  : pv_Mv l κ yX2_begin wsX2_begin rmX2_begin L f [.ref (x 10 0)] 0 0 (pv_Wv κ x L (va_up Z 10 (rBegin z))) := by
  refine pv_startV (cc := cX2_begin) (maxL := 1) (ret := none) (by decide) rfl (Nat.le_of_ble_eq_true rfl) (fun A0 P0 E0 S0 M0 a0 B0 T0 C0 hC => ?_)
  refine pg_sub (vs' := [(0, .ref (x 10 0))]) [0] rfl ?_
  refine pg_aload_n (pc := 0) hC dX2_begin_0 0 rfl rfl ?_
  refine pg_iconst (pc := 1) (v := 0) hC dX2_begin_1 (by decide) ?_
  refine pgR_puti (pc := 2) hC dX2_begin_2 0 (List.mem_of_getElem? (i := 1) rfl) miX2_begin_X2 hok (by decide) (fun f1 hokw1 => ?_)
  refine pg_aload_n (pc := 5) hC dX2_begin_5 0 rfl rfl ?_
  refine pg_bipush (pc := 6) (v := (-6)) hC dX2_begin_6 (by decide) ?_
  refine pgR_puti (pc := 8) hC dX2_begin_8 4 (List.mem_of_getElem? (i := 2) rfl) miX2_begin_X2 hokw1 (by decide) (fun f2 hokw2 => ?_)
  exact pg_vret (pc := 11) hC dX2_begin_11 rfl ⟨rfl, (by rw [show rBegin z = (zu (zu z 0 0 0) 4 0 (-6)) from by (first | rfl | (simp []; done))]; exact hokw2)⟩
abbrev rmX2_goesOn : Room := { frames := 0, cells := 0, slots := 0, locals := 0 }
theorem miX2_goesOn_X2 : ∀ w ∈ wsX20, w ∈ wsX2_goesOn := fun _ h => List.mem_cons_of_mem _ (List.mem_append_right _ h)
set_option maxHeartbeats 2000000 in
set_option maxRecDepth 20000 in
theorem cX2_goesOn_c (l : Launch) {κ : pv_Kt} {L : List Nat} {f : Nat → va_E} {x : Nat → Nat → Nat} {Z : Nat → Nat → Nat → Int32} {z : Nat → Nat → Int32} (hok : pv_ok κ x L f (va_up Z 10 z)) (b nx : Int32) (hb : b = 0 ∨ b = 1) : pv_Mi l κ yX2_goesOn wsX2_goesOn rmX2_goesOn L f [.ref (x 10 0), .int b, .int nx] 0 0 (pv_Wi κ x L (va_up Z 10 (rGo z b nx)) (b)) := by
  refine pv_startI (cc := cX2_goesOn) (maxL := 3) (ret := (some .boolean)) (by decide) rfl (Nat.le_of_ble_eq_true rfl) (fun A0 P0 E0 S0 M0 a0 B0 T0 C0 hC => ?_)
  refine pg_sub (vs' := [(0, .ref (x 10 0)), (1, .int b), (2, .int nx)]) [0, 1, 2] rfl ?_
  refine pg_iload_n (pc := 0) hC dX2_goesOn_0 1 rfl rfl ?_
  refine pg_if_eq (pc := 1) hC 9 dX2_goesOn_1 (by decide)  (fun c1 => ?_) (fun c1 => ?_)
  · skip
    refine pg_iload_n (pc := 9) hC dX2_goesOn_9 1 rfl rfl ?_
    exact pg_zret (pc := 10) hC dX2_goesOn_10 rfl (z_01 hb) ⟨rfl, rfl, (by rw [show rGo z b nx = z from by (first | rfl | (simp [rGo, c1]; done))]; exact hok)⟩
  · skip
    refine pg_aload_n (pc := 4) hC dX2_goesOn_4 0 rfl rfl ?_
    refine pg_iload_n (pc := 5) hC dX2_goesOn_5 2 rfl rfl ?_
    refine pgR_puti (pc := 6) hC dX2_goesOn_6 0 (List.mem_of_getElem? (i := 1) rfl) miX2_goesOn_X2 hok (by decide) (fun f1 hokw1 => ?_)
    refine pg_iload_n (pc := 9) hC dX2_goesOn_9 1 rfl rfl ?_
    exact pg_zret (pc := 10) hC dX2_goesOn_10 rfl (z_01 hb) ⟨rfl, rfl, (by rw [show rGo z b nx = (zu z 0 0 nx) from by (first | rfl | (simp [rGo, c1]; done))]; exact hokw1)⟩
abbrev rmX2_takesPupil : Room := { frames := 2, cells := 0, slots := 0, locals := 42 }
theorem miX2_takesPupil_X2 : ∀ w ∈ wsX20, w ∈ wsX2_takesPupil := fun _ h => List.mem_cons_of_mem _ (List.mem_append_right _ h)
set_option maxHeartbeats 2000000 in
set_option maxRecDepth 20000 in
theorem cX2_takesPupil_c (l : Launch) {κ : pv_Kt} {L : List Nat} {f : Nat → va_E} {x : Nat → Nat → Nat} {Z : Nat → Nat → Nat → Int32} {z : Nat → Nat → Int32} (hok : pv_ok κ x L f (va_up Z 10 z)) (c : Int32) : pv_Mi l κ yX2_takesPupil wsX2_takesPupil rmX2_takesPupil L f [.ref (x 10 0), .int c] 0 0 (pv_Wi κ x L (va_up Z 10 (rPupil z c)) (rDig c)) := by
  refine pv_startI (cc := cX2_takesPupil) (maxL := 2) (ret := (some .boolean)) (by decide) rfl (Nat.le_of_ble_eq_true rfl) (fun A0 P0 E0 S0 M0 a0 B0 T0 C0 hC => ?_)
  refine pg_sub (vs' := [(0, .ref (x 10 0)), (1, .int c)]) [0, 1] rfl ?_
  refine pg_iload_n (pc := 0) hC dX2_takesPupil_0 1 rfl rfl ?_
  refine pg_callSRi (pc := 1) (As := [.int c]) (rest := []) hC dX2_takesPupil_1 (cX2_isDigit_c l c) (va_cwS 1 hC.2.2.2.2.1 gX2_takesPupil_X2_isDigit rfl rfl rfl (by decide +kernel) ⟨Nat.le_of_ble_eq_true rfl, Nat.le_of_ble_eq_true rfl⟩) rfl rfl (Nat.le_of_ble_eq_true rfl) (Nat.zero_le _) (Nat.zero_le _) ?_
  refine pg_if_eq (pc := 4) hC 15 dX2_takesPupil_4 (by decide)  (fun c1 => ?_) (fun c1 => ?_)
  · skip
    refine pg_aload_n (pc := 15) hC dX2_takesPupil_15 0 rfl rfl ?_
    refine pg_iload_n (pc := 16) hC dX2_takesPupil_16 1 rfl rfl ?_
    refine pg_callSRi (pc := 17) (As := [.int c]) (rest := [.ref (x 10 0)]) hC dX2_takesPupil_17 (cX2_isDigit_c l c) (va_cwS 1 hC.2.2.2.2.1 gX2_takesPupil_X2_isDigit rfl rfl rfl (by decide +kernel) ⟨Nat.le_of_ble_eq_true rfl, Nat.le_of_ble_eq_true rfl⟩) rfl rfl (Nat.le_of_ble_eq_true rfl) (Nat.zero_le _) (Nat.zero_le _) ?_
    refine pg_iconst (pc := 20) (v := 1) hC dX2_takesPupil_20 (by decide) ?_
    refine pg_callVWi (pc := 21) (As := [.int (rDig c), .int 1]) (rest := []) hC dX2_takesPupil_21 (cX2_goesOn_c l hok (rDig c) 1 (rDig_01 _)) (cwV 2 hC.2.2.2.2.1 gX2_takesPupil_X2_goesOn rfl rfl rfl (by decide +kernel) ⟨Nat.le_of_ble_eq_true rfl, Nat.le_of_ble_eq_true rfl⟩) (ok_mem hok (by decide)) (ok_Ro hok) rfl rfl rfl rfl (Nat.le_of_ble_eq_true rfl) (Nat.zero_le _) (Nat.zero_le _) (fun f1 hokw1 => ?_)
    exact pg_zret (pc := 24) hC dX2_takesPupil_24 rfl (z_01 (rDig_01 _)) ⟨rfl, rfl, (by rw [show rPupil z c = (rGo z (rDig c) 1) from by (first | rfl | (simp [rPupil, c1]; done))]; exact hokw1)⟩
  · skip
    refine pg_aload_n (pc := 7) hC dX2_takesPupil_7 0 rfl rfl ?_
    refine pg_iload_n (pc := 8) hC dX2_takesPupil_8 1 rfl rfl ?_
    refine pg_bipush (pc := 9) (v := 48) hC dX2_takesPupil_9 (by decide) ?_
    refine pg_isub (pc := 11) (v := c - 48) hC dX2_takesPupil_11 rfl ?_
    refine pgR_puti (pc := 12) hC dX2_takesPupil_12 1 (List.mem_of_getElem? (i := 1) rfl) miX2_takesPupil_X2 hok (by decide) (fun f2 hokw2 => ?_)
    refine pg_aload_n (pc := 15) hC dX2_takesPupil_15 0 rfl rfl ?_
    refine pg_iload_n (pc := 16) hC dX2_takesPupil_16 1 rfl rfl ?_
    refine pg_callSRi (pc := 17) (As := [.int c]) (rest := [.ref (x 10 0)]) hC dX2_takesPupil_17 (cX2_isDigit_c l c) (va_cwS 1 hC.2.2.2.2.1 gX2_takesPupil_X2_isDigit rfl rfl rfl (by decide +kernel) ⟨Nat.le_of_ble_eq_true rfl, Nat.le_of_ble_eq_true rfl⟩) rfl rfl (Nat.le_of_ble_eq_true rfl) (Nat.zero_le _) (Nat.zero_le _) ?_
    refine pg_iconst (pc := 20) (v := 1) hC dX2_takesPupil_20 (by decide) ?_
    refine pg_callVWi (pc := 21) (As := [.int (rDig c), .int 1]) (rest := []) hC dX2_takesPupil_21 (cX2_goesOn_c l hokw2 (rDig c) 1 (rDig_01 _)) (cwV 2 hC.2.2.2.2.1 gX2_takesPupil_X2_goesOn rfl rfl rfl (by decide +kernel) ⟨Nat.le_of_ble_eq_true rfl, Nat.le_of_ble_eq_true rfl⟩) (ok_mem hokw2 (by decide)) (ok_Ro hokw2) rfl rfl rfl rfl (Nat.le_of_ble_eq_true rfl) (Nat.zero_le _) (Nat.zero_le _) (fun f3 hokw3 => ?_)
    exact pg_zret (pc := 24) hC dX2_takesPupil_24 rfl (z_01 (rDig_01 _)) ⟨rfl, rfl, (by rw [show rPupil z c = (rGo (zu z 1 0 (c - 48)) (rDig c) 1) from by (first | rfl | (simp [rPupil, c1]; done))]; exact hokw3)⟩
abbrev rmX2_takesExcuse : Room := { frames := 1, cells := 0, slots := 0, locals := 22 }
theorem miX2_takesExcuse_X2 : ∀ w ∈ wsX20, w ∈ wsX2_takesExcuse := fun _ h => List.mem_cons_of_mem _ (List.mem_append_right _ h)
set_option maxHeartbeats 2000000 in
set_option maxRecDepth 20000 in
theorem cX2_takesExcuse_c (l : Launch) {κ : pv_Kt} {L : List Nat} {f : Nat → va_E} {x : Nat → Nat → Nat} {Z : Nat → Nat → Nat → Int32} {z : Nat → Nat → Int32} (hok : pv_ok κ x L f (va_up Z 10 z)) (c : Int32) : pv_Mi l κ yX2_takesExcuse wsX2_takesExcuse rmX2_takesExcuse L f [.ref (x 10 0), .int c] 0 0 (pv_Wi κ x L (va_up Z 10 (rExcuse z c)) (bW c 97 108)) := by
  refine pv_startI (cc := cX2_takesExcuse) (maxL := 3) (ret := (some .boolean)) (by decide) rfl (Nat.le_of_ble_eq_true rfl) (fun A0 P0 E0 S0 M0 a0 B0 T0 C0 hC => ?_)
  refine pg_sub (vs' := [(0, .ref (x 10 0)), (1, .int c)]) [0, 1] rfl ?_
  refine pg_iload_n (pc := 0) hC dX2_takesExcuse_0 1 rfl rfl ?_
  refine pg_bipush (pc := 1) (v := 97) hC dX2_takesExcuse_1 (by decide) ?_
  refine pg_bipush (pc := 3) (v := 108) hC dX2_takesExcuse_3 (by decide) ?_
  refine pg_callSNRi (pc := 5) (As := [.int c, .int 97, .int 108]) (rest := []) hC dX2_takesExcuse_5 (cX4_isWithin_c l c 97 108) ⟨va_cnB 3 hC.2.2.2.2.1 gX2_takesExcuse_X4_isWithin_n54 rfl rfl rfl hC.2.2.2.2.2.2.2.2.2.1.2.1.2.2.1 (hC.2.2.2.2.1 _ (List.mem_of_getElem? (i := 3) rfl)) (by decide +kernel) ⟨Nat.le_of_ble_eq_true rfl, Nat.le_of_ble_eq_true rfl⟩, hC.2.2.2.2.1 _ (List.mem_of_getElem? (i := 2) rfl), trivial⟩ rfl rfl (Nat.le_of_ble_eq_true rfl) (Nat.zero_le _) (Nat.zero_le _) ?_
  refine pg_istore_n (pc := 8) (vs' := [(2, .int (bW c 97 108)), (0, .ref (x 10 0)), (1, .int c)]) hC dX2_takesExcuse_8 rfl (by decide) rfl ?_
  refine pg_iload_n (pc := 9) hC dX2_takesExcuse_9 0 rfl rfl ?_
  refine pg_if_eq (pc := 10) hC 21 dX2_takesExcuse_10 (by decide)  (fun c1 => ?_) (fun c1 => ?_)
  · skip
    refine pg_aload_n (pc := 21) hC dX2_takesExcuse_21 1 rfl rfl ?_
    refine pg_iload_n (pc := 22) hC dX2_takesExcuse_22 0 rfl rfl ?_
    refine pg_iconst (pc := 23) (v := 2) hC dX2_takesExcuse_23 (by decide) ?_
    refine pg_callVWi (pc := 24) (As := [.int (bW c 97 108), .int 2]) (rest := []) hC dX2_takesExcuse_24 (cX2_goesOn_c l hok (bW c 97 108) 2 (bW_01 _ _ _)) (cwV 2 hC.2.2.2.2.1 gX2_takesExcuse_X2_goesOn rfl rfl rfl (by decide +kernel) ⟨Nat.le_of_ble_eq_true rfl, Nat.le_of_ble_eq_true rfl⟩) (ok_mem hok (by decide)) (ok_Ro hok) rfl rfl rfl rfl (Nat.le_of_ble_eq_true rfl) (Nat.zero_le _) (Nat.zero_le _) (fun f1 hokw1 => ?_)
    exact pg_zret (pc := 27) hC dX2_takesExcuse_27 rfl (bW_z _ _ _) ⟨rfl, rfl, (by rw [show rExcuse z c = (rGo z (bW c 97 108) 2) from by (first | rfl | (simp [rExcuse, c1]; done))]; exact hokw1)⟩
  · skip
    refine pg_aload_n (pc := 13) hC dX2_takesExcuse_13 1 rfl rfl ?_
    refine pg_iload_n (pc := 14) hC dX2_takesExcuse_14 2 rfl rfl ?_
    refine pg_bipush (pc := 15) (v := 97) hC dX2_takesExcuse_15 (by decide) ?_
    refine pg_isub (pc := 17) (v := c - 97) hC dX2_takesExcuse_17 rfl ?_
    refine pgR_puti (pc := 18) hC dX2_takesExcuse_18 2 (List.mem_of_getElem? (i := 1) rfl) miX2_takesExcuse_X2 hok (by decide) (fun f2 hokw2 => ?_)
    refine pg_aload_n (pc := 21) hC dX2_takesExcuse_21 1 rfl rfl ?_
    refine pg_iload_n (pc := 22) hC dX2_takesExcuse_22 0 rfl rfl ?_
    refine pg_iconst (pc := 23) (v := 2) hC dX2_takesExcuse_23 (by decide) ?_
    refine pg_callVWi (pc := 24) (As := [.int (bW c 97 108), .int 2]) (rest := []) hC dX2_takesExcuse_24 (cX2_goesOn_c l hokw2 (bW c 97 108) 2 (bW_01 _ _ _)) (cwV 2 hC.2.2.2.2.1 gX2_takesExcuse_X2_goesOn rfl rfl rfl (by decide +kernel) ⟨Nat.le_of_ble_eq_true rfl, Nat.le_of_ble_eq_true rfl⟩) (ok_mem hokw2 (by decide)) (ok_Ro hokw2) rfl rfl rfl rfl (Nat.le_of_ble_eq_true rfl) (Nat.zero_le _) (Nat.zero_le _) (fun f3 hokw3 => ?_)
    exact pg_zret (pc := 27) hC dX2_takesExcuse_27 rfl (bW_z _ _ _) ⟨rfl, rfl, (by rw [show rExcuse z c = (rGo (zu z 2 0 (c - 97)) (bW c 97 108) 2) from by (first | rfl | (simp [rExcuse, c1]; done))]; exact hokw3)⟩
abbrev rmX2_takesMinutes : Room := { frames := 2, cells := 0, slots := 0, locals := 42 }
theorem miX2_takesMinutes_X2 : ∀ w ∈ wsX20, w ∈ wsX2_takesMinutes := fun _ h => List.mem_cons_of_mem _ (List.mem_append_right _ h)
set_option maxHeartbeats 2000000 in
set_option maxRecDepth 20000 in
theorem cX2_takesMinutes_c (l : Launch) {κ : pv_Kt} {L : List Nat} {f : Nat → va_E} {x : Nat → Nat → Nat} {Z : Nat → Nat → Nat → Int32} {z : Nat → Nat → Int32} (hok : pv_ok κ x L f (va_up Z 10 z)) (c t nx : Int32) : pv_Mi l κ yX2_takesMinutes wsX2_takesMinutes rmX2_takesMinutes L f [.ref (x 10 0), .int c, .int t, .int nx] 0 0 (pv_Wi κ x L (va_up Z 10 (rMin z c t nx)) (rDig c)) := by
  refine pv_startI (cc := cX2_takesMinutes) (maxL := 4) (ret := (some .boolean)) (by decide) rfl (Nat.le_of_ble_eq_true rfl) (fun A0 P0 E0 S0 M0 a0 B0 T0 C0 hC => ?_)
  refine pg_sub (vs' := [(0, .ref (x 10 0)), (1, .int c), (2, .int t), (3, .int nx)]) [0, 1, 2, 3] rfl ?_
  refine pg_iload_n (pc := 0) hC dX2_takesMinutes_0 1 rfl rfl ?_
  refine pg_callSRi (pc := 1) (As := [.int c]) (rest := []) hC dX2_takesMinutes_1 (cX2_isDigit_c l c) (va_cwS 1 hC.2.2.2.2.1 gX2_takesMinutes_X2_isDigit rfl rfl rfl (by decide +kernel) ⟨Nat.le_of_ble_eq_true rfl, Nat.le_of_ble_eq_true rfl⟩) rfl rfl (Nat.le_of_ble_eq_true rfl) (Nat.zero_le _) (Nat.zero_le _) ?_
  refine pg_if_eq (pc := 4) hC 20 dX2_takesMinutes_4 (by decide)  (fun c1 => ?_) (fun c1 => ?_)
  · skip
    refine pg_aload_n (pc := 20) hC dX2_takesMinutes_20 0 rfl rfl ?_
    refine pg_iload_n (pc := 21) hC dX2_takesMinutes_21 1 rfl rfl ?_
    refine pg_callSRi (pc := 22) (As := [.int c]) (rest := [.ref (x 10 0)]) hC dX2_takesMinutes_22 (cX2_isDigit_c l c) (va_cwS 1 hC.2.2.2.2.1 gX2_takesMinutes_X2_isDigit rfl rfl rfl (by decide +kernel) ⟨Nat.le_of_ble_eq_true rfl, Nat.le_of_ble_eq_true rfl⟩) rfl rfl (Nat.le_of_ble_eq_true rfl) (Nat.zero_le _) (Nat.zero_le _) ?_
    refine pg_iload_n (pc := 25) hC dX2_takesMinutes_25 3 rfl rfl ?_
    refine pg_callVWi (pc := 26) (As := [.int (rDig c), .int nx]) (rest := []) hC dX2_takesMinutes_26 (cX2_goesOn_c l hok (rDig c) nx (rDig_01 _)) (cwV 2 hC.2.2.2.2.1 gX2_takesMinutes_X2_goesOn rfl rfl rfl (by decide +kernel) ⟨Nat.le_of_ble_eq_true rfl, Nat.le_of_ble_eq_true rfl⟩) (ok_mem hok (by decide)) (ok_Ro hok) rfl rfl rfl rfl (Nat.le_of_ble_eq_true rfl) (Nat.zero_le _) (Nat.zero_le _) (fun f1 hokw1 => ?_)
    exact pg_zret (pc := 29) hC dX2_takesMinutes_29 rfl (z_01 (rDig_01 _)) ⟨rfl, rfl, (by rw [show rMin z c t nx = (rGo z (rDig c) nx) from by (first | rfl | (simp [rMin, c1]; done))]; exact hokw1)⟩
  · skip
    refine pg_aload_n (pc := 7) hC dX2_takesMinutes_7 0 rfl rfl ?_
    refine pg_bipush (pc := 8) (v := 10) hC dX2_takesMinutes_8 (by decide) ?_
    refine pg_iload_n (pc := 10) hC dX2_takesMinutes_10 2 rfl rfl ?_
    refine pg_imul (pc := 11) (v := 10 * t) hC dX2_takesMinutes_11 rfl ?_
    refine pg_iload_n (pc := 12) hC dX2_takesMinutes_12 1 rfl rfl ?_
    refine pg_iadd (pc := 13) (v := (10 * t) + c) hC dX2_takesMinutes_13 rfl ?_
    refine pg_bipush (pc := 14) (v := 48) hC dX2_takesMinutes_14 (by decide) ?_
    refine pg_isub (pc := 16) (v := ((10 * t) + c) - 48) hC dX2_takesMinutes_16 rfl ?_
    refine pgR_puti (pc := 17) hC dX2_takesMinutes_17 3 (List.mem_of_getElem? (i := 1) rfl) miX2_takesMinutes_X2 hok (by decide) (fun f2 hokw2 => ?_)
    refine pg_aload_n (pc := 20) hC dX2_takesMinutes_20 0 rfl rfl ?_
    refine pg_iload_n (pc := 21) hC dX2_takesMinutes_21 1 rfl rfl ?_
    refine pg_callSRi (pc := 22) (As := [.int c]) (rest := [.ref (x 10 0)]) hC dX2_takesMinutes_22 (cX2_isDigit_c l c) (va_cwS 1 hC.2.2.2.2.1 gX2_takesMinutes_X2_isDigit rfl rfl rfl (by decide +kernel) ⟨Nat.le_of_ble_eq_true rfl, Nat.le_of_ble_eq_true rfl⟩) rfl rfl (Nat.le_of_ble_eq_true rfl) (Nat.zero_le _) (Nat.zero_le _) ?_
    refine pg_iload_n (pc := 25) hC dX2_takesMinutes_25 3 rfl rfl ?_
    refine pg_callVWi (pc := 26) (As := [.int (rDig c), .int nx]) (rest := []) hC dX2_takesMinutes_26 (cX2_goesOn_c l hokw2 (rDig c) nx (rDig_01 _)) (cwV 2 hC.2.2.2.2.1 gX2_takesMinutes_X2_goesOn rfl rfl rfl (by decide +kernel) ⟨Nat.le_of_ble_eq_true rfl, Nat.le_of_ble_eq_true rfl⟩) (ok_mem hokw2 (by decide)) (ok_Ro hokw2) rfl rfl rfl rfl (Nat.le_of_ble_eq_true rfl) (Nat.zero_le _) (Nat.zero_le _) (fun f3 hokw3 => ?_)
    exact pg_zret (pc := 29) hC dX2_takesMinutes_29 rfl (z_01 (rDig_01 _)) ⟨rfl, rfl, (by rw [show rMin z c t nx = (rGo (zu z 3 0 (((10 * t) + c) - 48)) (rDig c) nx) from by (first | rfl | (simp [rMin, c1]; done))]; exact hokw3)⟩
abbrev rmX2_takesComma : Room := { frames := 1, cells := 0, slots := 0, locals := 22 }
theorem miX2_takesComma_X2 : ∀ w ∈ wsX20, w ∈ wsX2_takesComma := fun _ h => List.mem_cons_of_mem _ (List.mem_append_right _ h)
set_option maxHeartbeats 2000000 in
set_option maxRecDepth 20000 in
theorem cX2_takesComma_c (l : Launch) {κ : pv_Kt} {L : List Nat} {f : Nat → va_E} {x : Nat → Nat → Nat} {Z : Nat → Nat → Nat → Int32} {z : Nat → Nat → Int32} (hok : pv_ok κ x L f (va_up Z 10 z)) (c : Int32) : pv_Mi l κ yX2_takesComma wsX2_takesComma rmX2_takesComma L f [.ref (x 10 0), .int c] 0 0 (pv_Wi κ x L (va_up Z 10 (rComma z c)) (bE c 44)) := by
  refine pv_startI (cc := cX2_takesComma) (maxL := 2) (ret := (some .boolean)) (by decide) rfl (Nat.le_of_ble_eq_true rfl) (fun A0 P0 E0 S0 M0 a0 B0 T0 C0 hC => ?_)
  refine pg_sub (vs' := [(0, .ref (x 10 0)), (1, .int c)]) [0, 1] rfl ?_
  refine pg_iload_n (pc := 0) hC dX2_takesComma_0 1 rfl rfl ?_
  refine pg_bipush (pc := 1) (v := 44) hC dX2_takesComma_1 (by decide) ?_
  refine pg_icmp_ne (pc := 3) hC 12 dX2_takesComma_3 (by decide)  (fun c1 => ?_) (fun c1 => ?_)
  · skip
    refine pg_aload_n (pc := 12) hC dX2_takesComma_12 0 rfl rfl ?_
    refine pg_iload_n (pc := 13) hC dX2_takesComma_13 1 rfl rfl ?_
    refine pg_bipush (pc := 14) (v := 44) hC dX2_takesComma_14 (by decide) ?_
    refine pg_icmp_ne (pc := 16) hC 23 dX2_takesComma_16 (by decide)  (fun c2 => ?_) (fun c2 => ?_)
    · skip
      refine pg_iconst (pc := 23) (v := 0) hC dX2_takesComma_23 (by decide) ?_
      refine pg_iconst (pc := 24) (v := 0) hC dX2_takesComma_24 (by decide) ?_
      refine pg_callVWi (pc := 25) (As := [.int 0, .int 0]) (rest := []) hC dX2_takesComma_25 (cX2_goesOn_c l hok 0 0 (Or.inl rfl)) (cwV 2 hC.2.2.2.2.1 gX2_takesComma_X2_goesOn rfl rfl rfl (by decide +kernel) ⟨Nat.le_of_ble_eq_true rfl, Nat.le_of_ble_eq_true rfl⟩) (ok_mem hok (by decide)) (ok_Ro hok) rfl rfl rfl rfl (Nat.le_of_ble_eq_true rfl) (Nat.zero_le _) (Nat.zero_le _) (fun f1 hokw1 => ?_)
      exact pg_zret (pc := 28) hC dX2_takesComma_28 rfl rfl ⟨(by simp [bE, c1, c2]), rfl, (by rw [show rComma z c = (rGo z 0 0) from by (first | rfl | (simp [rComma, bE, c1, c2]; done))]; exact hokw1)⟩
    · skip
      exact absurd c2 c1
  · skip
    refine pg_aload_n (pc := 6) hC dX2_takesComma_6 0 rfl rfl ?_
    refine pg_bipush (pc := 7) (v := (-6)) hC dX2_takesComma_7 (by decide) ?_
    refine pgR_puti (pc := 9) hC dX2_takesComma_9 4 (List.mem_of_getElem? (i := 1) rfl) miX2_takesComma_X2 hok (by decide) (fun f2 hokw2 => ?_)
    refine pg_aload_n (pc := 12) hC dX2_takesComma_12 0 rfl rfl ?_
    refine pg_iload_n (pc := 13) hC dX2_takesComma_13 1 rfl rfl ?_
    refine pg_bipush (pc := 14) (v := 44) hC dX2_takesComma_14 (by decide) ?_
    refine pg_icmp_ne (pc := 16) hC 23 dX2_takesComma_16 (by decide)  (fun c3 => ?_) (fun c3 => ?_)
    · skip
      exact absurd c1 c3
    · skip
      refine pg_iconst (pc := 19) (v := 1) hC dX2_takesComma_19 (by decide) ?_
      refine pg_goto (pc := 20) hC 24 dX2_takesComma_20 (by decide) ?_
      refine pg_iconst (pc := 24) (v := 0) hC dX2_takesComma_24 (by decide) ?_
      refine pg_callVWi (pc := 25) (As := [.int 1, .int 0]) (rest := []) hC dX2_takesComma_25 (cX2_goesOn_c l hokw2 1 0 (Or.inr rfl)) (cwV 2 hC.2.2.2.2.1 gX2_takesComma_X2_goesOn rfl rfl rfl (by decide +kernel) ⟨Nat.le_of_ble_eq_true rfl, Nat.le_of_ble_eq_true rfl⟩) (ok_mem hokw2 (by decide)) (ok_Ro hokw2) rfl rfl rfl rfl (Nat.le_of_ble_eq_true rfl) (Nat.zero_le _) (Nat.zero_le _) (fun f3 hokw3 => ?_)
      exact pg_zret (pc := 28) hC dX2_takesComma_28 rfl rfl ⟨(by simp [bE, c1, c3]), rfl, (by rw [show rComma z c = (rGo (zu z 4 0 (-6)) 1 0) from by (first | rfl | (simp [rComma, bE, c1, c3]; done))]; exact hokw3)⟩
abbrev rmX2_takesAfterMinutes : Room := { frames := 2, cells := 0, slots := 0, locals := 43 }
set_option maxHeartbeats 2000000 in
set_option maxRecDepth 20000 in
theorem cX2_takesAfterMinutes_c (l : Launch) {κ : pv_Kt} {L : List Nat} {f : Nat → va_E} {x : Nat → Nat → Nat} {Z : Nat → Nat → Nat → Int32} {z : Nat → Nat → Int32} (hok : pv_ok κ x L f (va_up Z 10 z)) (c : Int32) : pv_Mi l κ yX2_takesAfterMinutes wsX2_takesAfterMinutes rmX2_takesAfterMinutes L f [.ref (x 10 0), .int c] 0 0 (pv_Wi κ x L (va_up Z 10 (rAfter z c)) (rAfterB c)) := by
  refine pv_startI (cc := cX2_takesAfterMinutes) (maxL := 2) (ret := (some .boolean)) (by decide) rfl (Nat.le_of_ble_eq_true rfl) (fun A0 P0 E0 S0 M0 a0 B0 T0 C0 hC => ?_)
  refine pg_sub (vs' := [(0, .ref (x 10 0)), (1, .int c)]) [0, 1] rfl ?_
  refine pg_aload_n (pc := 0) hC dX2_takesAfterMinutes_0 0 rfl rfl ?_
  refine pg_iload_n (pc := 1) hC dX2_takesAfterMinutes_1 1 rfl rfl ?_
  refine pg_bipush (pc := 2) (v := 119) hC dX2_takesAfterMinutes_2 (by decide) ?_
  refine pg_icmp_ne (pc := 4) hC 11 dX2_takesAfterMinutes_4 (by decide)  (fun c1 => ?_) (fun c1 => ?_)
  · skip
    refine pg_iconst (pc := 11) (v := 0) hC dX2_takesAfterMinutes_11 (by decide) ?_
    refine pg_bipush (pc := 12) (v := 6) hC dX2_takesAfterMinutes_12 (by decide) ?_
    refine pg_callVWi (pc := 14) (As := [.int 0, .int 6]) (rest := []) hC dX2_takesAfterMinutes_14 (cX2_goesOn_c l hok 0 6 (Or.inl rfl)) (cwV 2 hC.2.2.2.2.1 gX2_takesAfterMinutes_X2_goesOn rfl rfl rfl (by decide +kernel) ⟨Nat.le_of_ble_eq_true rfl, Nat.le_of_ble_eq_true rfl⟩) (ok_mem hok (by decide)) (ok_Ro hok) rfl rfl rfl rfl (Nat.le_of_ble_eq_true rfl) (Nat.zero_le _) (Nat.zero_le _) (fun f1 hokw1 => ?_)
    refine pg_if_ne (pc := 17) hC 28 dX2_takesAfterMinutes_17 (by decide)  (fun c2 => False.elim (absurd c2 (by decide))) (fun c2 => ?_)
    refine pg_aload_n (pc := 20) hC dX2_takesAfterMinutes_20 0 rfl rfl ?_
    refine pg_iload_n (pc := 21) hC dX2_takesAfterMinutes_21 1 rfl rfl ?_
    refine pg_callVWi (pc := 22) (As := [.int c]) (rest := []) hC dX2_takesAfterMinutes_22 (cX2_takesComma_c l hokw1 c) (cwV 1 hC.2.2.2.2.1 gX2_takesAfterMinutes_X2_takesComma rfl rfl rfl (by decide +kernel) ⟨Nat.le_of_ble_eq_true rfl, Nat.le_of_ble_eq_true rfl⟩) (ok_mem hokw1 (by decide)) (ok_Ro hokw1) rfl rfl rfl rfl (Nat.le_of_ble_eq_true rfl) (Nat.zero_le _) (Nat.zero_le _) (fun f2 hokw2 => ?_)
    refine pg_if_eq (pc := 25) hC 32 dX2_takesAfterMinutes_25 (by decide)  (fun c3 => ?_) (fun c3 => ?_)
    · skip
      refine pg_iconst (pc := 32) (v := 0) hC dX2_takesAfterMinutes_32 (by decide) ?_
      exact pg_zret (pc := 33) hC dX2_takesAfterMinutes_33 rfl rfl ⟨(by simp_all [rAfterB, bE]), rfl, (by rw [show rAfter z c = (rComma (rGo z 0 6) c) from by (first | rfl | (simp [rAfter, rGo, c1, c2, c3]; done))]; exact hokw2)⟩
    · skip
      refine pg_iconst (pc := 28) (v := 1) hC dX2_takesAfterMinutes_28 (by decide) ?_
      refine pg_goto (pc := 29) hC 33 dX2_takesAfterMinutes_29 (by decide) ?_
      exact pg_zret (pc := 33) hC dX2_takesAfterMinutes_33 rfl rfl ⟨(by simp_all [rAfterB, bE]), rfl, (by rw [show rAfter z c = (rComma (rGo z 0 6) c) from by (first | rfl | (simp [rAfter, rGo, c1, c2, c3]; done))]; exact hokw2)⟩
  · skip
    refine pg_iconst (pc := 7) (v := 1) hC dX2_takesAfterMinutes_7 (by decide) ?_
    refine pg_goto (pc := 8) hC 12 dX2_takesAfterMinutes_8 (by decide) ?_
    refine pg_bipush (pc := 12) (v := 6) hC dX2_takesAfterMinutes_12 (by decide) ?_
    refine pg_callVWi (pc := 14) (As := [.int 1, .int 6]) (rest := []) hC dX2_takesAfterMinutes_14 (cX2_goesOn_c l hok 1 6 (Or.inr rfl)) (cwV 2 hC.2.2.2.2.1 gX2_takesAfterMinutes_X2_goesOn rfl rfl rfl (by decide +kernel) ⟨Nat.le_of_ble_eq_true rfl, Nat.le_of_ble_eq_true rfl⟩) (ok_mem hok (by decide)) (ok_Ro hok) rfl rfl rfl rfl (Nat.le_of_ble_eq_true rfl) (Nat.zero_le _) (Nat.zero_le _) (fun f3 hokw3 => ?_)
    refine pg_if_ne (pc := 17) hC 28 dX2_takesAfterMinutes_17 (by decide)  (fun c4 => ?_) (fun c4 => False.elim (absurd c4 (by decide)))
    refine pg_iconst (pc := 28) (v := 1) hC dX2_takesAfterMinutes_28 (by decide) ?_
    refine pg_goto (pc := 29) hC 33 dX2_takesAfterMinutes_29 (by decide) ?_
    exact pg_zret (pc := 33) hC dX2_takesAfterMinutes_33 rfl rfl ⟨(by simp_all [rAfterB, bE]), rfl, (by rw [show rAfter z c = (rGo z 1 6) from by (first | rfl | (simp [rAfter, rGo, c1, c4]; done))]; exact hokw3)⟩
abbrev rmX2_takesWitness : Room := { frames := 2, cells := 0, slots := 0, locals := 42 }
theorem miX2_takesWitness_X2 : ∀ w ∈ wsX20, w ∈ wsX2_takesWitness := fun _ h => List.mem_cons_of_mem _ (List.mem_append_right _ h)
set_option maxHeartbeats 2000000 in
set_option maxRecDepth 20000 in
theorem cX2_takesWitness_c (l : Launch) {κ : pv_Kt} {L : List Nat} {f : Nat → va_E} {x : Nat → Nat → Nat} {Z : Nat → Nat → Nat → Int32} {z : Nat → Nat → Int32} (hok : pv_ok κ x L f (va_up Z 10 z)) (c : Int32) : pv_Mi l κ yX2_takesWitness wsX2_takesWitness rmX2_takesWitness L f [.ref (x 10 0), .int c] 0 0 (pv_Wi κ x L (va_up Z 10 (rWit z c)) (rWitB z c)) := by
  refine pv_startI (cc := cX2_takesWitness) (maxL := 3) (ret := (some .boolean)) (by decide) rfl (Nat.le_of_ble_eq_true rfl) (fun A0 P0 E0 S0 M0 a0 B0 T0 C0 hC => ?_)
  refine pg_sub (vs' := [(0, .ref (x 10 0)), (1, .int c)]) [0, 1] rfl ?_
  refine pg_iload_n (pc := 0) hC dX2_takesWitness_0 1 rfl rfl ?_
  refine pg_callSRi (pc := 1) (As := [.int c]) (rest := []) hC dX2_takesWitness_1 (cX2_isDigit_c l c) (va_cwS 1 hC.2.2.2.2.1 gX2_takesWitness_X2_isDigit rfl rfl rfl (by decide +kernel) ⟨Nat.le_of_ble_eq_true rfl, Nat.le_of_ble_eq_true rfl⟩) rfl rfl (Nat.le_of_ble_eq_true rfl) (Nat.zero_le _) (Nat.zero_le _) ?_
  refine pg_if_eq (pc := 4) hC 22 dX2_takesWitness_4 (by decide)  (fun c1 => ?_) (fun c1 => ?_)
  · skip
    refine pg_iconst (pc := 22) (v := 0) hC dX2_takesWitness_22 (by decide) ?_
    refine pg_istore_n (pc := 23) (vs' := [(2, .int 0), (0, .ref (x 10 0)), (1, .int c)]) hC dX2_takesWitness_23 rfl (by decide) rfl ?_
    refine pg_iload_n (pc := 24) hC dX2_takesWitness_24 0 rfl rfl ?_
    refine pg_if_eq (pc := 25) hC 36 dX2_takesWitness_25 (by decide)  (fun c2 => ?_) (fun c2 => False.elim (absurd (by decide) c2))
    refine pg_aload_n (pc := 36) hC dX2_takesWitness_36 1 rfl rfl ?_
    refine pg_iload_n (pc := 37) hC dX2_takesWitness_37 0 rfl rfl ?_
    refine pg_bipush (pc := 38) (v := 7) hC dX2_takesWitness_38 (by decide) ?_
    refine pg_callVWi (pc := 40) (As := [.int 0, .int 7]) (rest := []) hC dX2_takesWitness_40 (cX2_goesOn_c l hok 0 7 (Or.inl rfl)) (cwV 2 hC.2.2.2.2.1 gX2_takesWitness_X2_goesOn rfl rfl rfl (by decide +kernel) ⟨Nat.le_of_ble_eq_true rfl, Nat.le_of_ble_eq_true rfl⟩) (ok_mem hok (by decide)) (ok_Ro hok) rfl rfl rfl rfl (Nat.le_of_ble_eq_true rfl) (Nat.zero_le _) (Nat.zero_le _) (fun f1 hokw1 => ?_)
    exact pg_zret (pc := 43) hC dX2_takesWitness_43 rfl rfl ⟨(by simp [rWitB, c1, c2]), rfl, (by rw [show rWit z c = (rGo z 0 7) from by (first | rfl | (simp [rWit, rWitB, c1, c2]; done))]; exact hokw1)⟩
  · skip
    refine pg_iload_n (pc := 7) hC dX2_takesWitness_7 1 rfl rfl ?_
    refine pg_bipush (pc := 8) (v := 48) hC dX2_takesWitness_8 (by decide) ?_
    refine pg_isub (pc := 10) (v := c - 48) hC dX2_takesWitness_10 rfl ?_
    refine pg_aload_n (pc := 11) hC dX2_takesWitness_11 0 rfl rfl ?_
    refine pgR_geti (pc := 12) (v := z 1 0) hC dX2_takesWitness_12 1 (List.mem_of_getElem? (i := 1) rfl) miX2_takesWitness_X2 hok (by decide) rfl ?_
    refine pg_icmp_eq (pc := 15) hC 22 dX2_takesWitness_15 (by decide)  (fun c3 => ?_) (fun c3 => ?_)
    · skip
      refine pg_iconst (pc := 22) (v := 0) hC dX2_takesWitness_22 (by decide) ?_
      refine pg_istore_n (pc := 23) (vs' := [(2, .int 0), (0, .ref (x 10 0)), (1, .int c)]) hC dX2_takesWitness_23 rfl (by decide) rfl ?_
      refine pg_iload_n (pc := 24) hC dX2_takesWitness_24 0 rfl rfl ?_
      refine pg_if_eq (pc := 25) hC 36 dX2_takesWitness_25 (by decide)  (fun c4 => ?_) (fun c4 => False.elim (absurd (by decide) c4))
      refine pg_aload_n (pc := 36) hC dX2_takesWitness_36 1 rfl rfl ?_
      refine pg_iload_n (pc := 37) hC dX2_takesWitness_37 0 rfl rfl ?_
      refine pg_bipush (pc := 38) (v := 7) hC dX2_takesWitness_38 (by decide) ?_
      refine pg_callVWi (pc := 40) (As := [.int 0, .int 7]) (rest := []) hC dX2_takesWitness_40 (cX2_goesOn_c l hok 0 7 (Or.inl rfl)) (cwV 2 hC.2.2.2.2.1 gX2_takesWitness_X2_goesOn rfl rfl rfl (by decide +kernel) ⟨Nat.le_of_ble_eq_true rfl, Nat.le_of_ble_eq_true rfl⟩) (ok_mem hok (by decide)) (ok_Ro hok) rfl rfl rfl rfl (Nat.le_of_ble_eq_true rfl) (Nat.zero_le _) (Nat.zero_le _) (fun f2 hokw2 => ?_)
      exact pg_zret (pc := 43) hC dX2_takesWitness_43 rfl rfl ⟨(by simp [rWitB, c1, c3, c4]), rfl, (by rw [show rWit z c = (rGo z 0 7) from by (first | rfl | (simp [rWit, rWitB, c1, c3, c4]; done))]; exact hokw2)⟩
    · skip
      refine pg_iconst (pc := 18) (v := 1) hC dX2_takesWitness_18 (by decide) ?_
      refine pg_goto (pc := 19) hC 23 dX2_takesWitness_19 (by decide) ?_
      refine pg_istore_n (pc := 23) (vs' := [(2, .int 1), (0, .ref (x 10 0)), (1, .int c)]) hC dX2_takesWitness_23 rfl (by decide) rfl ?_
      refine pg_iload_n (pc := 24) hC dX2_takesWitness_24 0 rfl rfl ?_
      refine pg_if_eq (pc := 25) hC 36 dX2_takesWitness_25 (by decide)  (fun c5 => False.elim (absurd c5 (by decide))) (fun c5 => ?_)
      refine pg_aload_n (pc := 28) hC dX2_takesWitness_28 1 rfl rfl ?_
      refine pg_iload_n (pc := 29) hC dX2_takesWitness_29 2 rfl rfl ?_
      refine pg_bipush (pc := 30) (v := 48) hC dX2_takesWitness_30 (by decide) ?_
      refine pg_isub (pc := 32) (v := c - 48) hC dX2_takesWitness_32 rfl ?_
      refine pgR_puti (pc := 33) hC dX2_takesWitness_33 4 (List.mem_of_getElem? (i := 2) rfl) miX2_takesWitness_X2 hok (by decide) (fun f3 hokw3 => ?_)
      refine pg_aload_n (pc := 36) hC dX2_takesWitness_36 1 rfl rfl ?_
      refine pg_iload_n (pc := 37) hC dX2_takesWitness_37 0 rfl rfl ?_
      refine pg_bipush (pc := 38) (v := 7) hC dX2_takesWitness_38 (by decide) ?_
      refine pg_callVWi (pc := 40) (As := [.int 1, .int 7]) (rest := []) hC dX2_takesWitness_40 (cX2_goesOn_c l hokw3 1 7 (Or.inr rfl)) (cwV 2 hC.2.2.2.2.1 gX2_takesWitness_X2_goesOn rfl rfl rfl (by decide +kernel) ⟨Nat.le_of_ble_eq_true rfl, Nat.le_of_ble_eq_true rfl⟩) (ok_mem hokw3 (by decide)) (ok_Ro hokw3) rfl rfl rfl rfl (Nat.le_of_ble_eq_true rfl) (Nat.zero_le _) (Nat.zero_le _) (fun f4 hokw4 => ?_)
      exact pg_zret (pc := 43) hC dX2_takesWitness_43 rfl rfl ⟨(by simp [rWitB, c1, c3, c5]), rfl, (by rw [show rWit z c = (rGo (zu z 4 0 (c - 48)) 1 7) from by (first | rfl | (simp [rWit, rWitB, c1, c3, c5]; done))]; exact hokw4)⟩
abbrev rmX2_takes : Room := { frames := 3, cells := 0, slots := 0, locals := 65 }
theorem miX2_takes_X2 : ∀ w ∈ wsX20, w ∈ wsX2_takes := fun _ h => List.mem_cons_of_mem _ (List.mem_append_right _ h)
set_option maxHeartbeats 2000000 in
set_option maxRecDepth 20000 in
theorem cX2_takes_c (l : Launch) {κ : pv_Kt} {L : List Nat} {f : Nat → va_E} {x : Nat → Nat → Nat} {Z : Nat → Nat → Nat → Int32} {z : Nat → Nat → Int32} (hok : pv_ok κ x L f (va_up Z 10 z)) (c : Int32) : pv_Mi l κ yX2_takes wsX2_takes rmX2_takes L f [.ref (x 10 0), .int c] 0 0 (pv_Wi κ x L (va_up Z 10 (rT z c)) (rB z c)) := by
  refine pv_startI (cc := cX2_takes) (maxL := 2) (ret := (some .boolean)) (by decide) rfl (Nat.le_of_ble_eq_true rfl) (fun A0 P0 E0 S0 M0 a0 B0 T0 C0 hC => ?_)
  refine pg_sub (vs' := [(0, .ref (x 10 0)), (1, .int c)]) [0, 1] rfl ?_
  refine pg_aload_n (pc := 0) hC dX2_takes_0 0 rfl rfl ?_
  refine pgR_geti (pc := 1) (v := z 0 0) hC dX2_takes_1 0 (List.mem_of_getElem? (i := 1) rfl) miX2_takes_X2 hok (by decide) rfl ?_
  rcases tab_cases (z 0 0) 0 6 (by omega) with ⟨j, hjl, hj, hxj⟩ | c1
  · skip
    rcases (show j = 0 ∨ j = 1 ∨ j = 2 ∨ j = 3 ∨ j = 4 ∨ j = 5 ∨ j = 6 by omega) with rfl | rfl | rfl | rfl | rfl | rfl | rfl
    · skip
      have c2 : z 0 0 = 0 := hxj
      refine pg_tabIn (pc := 4) hC 48 dX2_takes_4 (by rw [c2]; decide) (by rw [c2]; decide) (by rw [c2]; rfl) (by decide) ?_
      refine pg_aload_n (pc := 48) hC dX2_takes_48 0 rfl rfl ?_
      refine pg_iload_n (pc := 49) hC dX2_takes_49 1 rfl rfl ?_
      refine pg_callVWi (pc := 50) (As := [.int c]) (rest := []) hC dX2_takes_50 (cX2_takesPupil_c l hok c) (cwV 1 hC.2.2.2.2.1 gX2_takes_X2_takesPupil rfl rfl rfl (by decide +kernel) ⟨Nat.le_of_ble_eq_true rfl, Nat.le_of_ble_eq_true rfl⟩) (ok_mem hok (by decide)) (ok_Ro hok) rfl rfl rfl rfl (Nat.le_of_ble_eq_true rfl) (Nat.zero_le _) (Nat.zero_le _) (fun f1 hokw1 => ?_)
      exact pg_zret (pc := 53) hC dX2_takes_53 rfl (z_01 (rDig_01 _)) ⟨(by first | (simp [rB, bE, c2]; done) | (rcases rDig_01 c with q | q <;> rcases rAfterB_01 c with q2 | q2 <;> first | exact absurd q c2 | exact absurd q2 c2 | (simp [rB, bE, c2, q, q2]; done))), rfl, (by rw [show rT z c = (rPupil z c) from by (first | rfl | (simp [rT, bE, c2]; done))]; exact hokw1)⟩
    · skip
      have c3 : z 0 0 = 1 := hxj
      refine pg_tabIn (pc := 4) hC 54 dX2_takes_4 (by rw [c3]; decide) (by rw [c3]; decide) (by rw [c3]; rfl) (by decide) ?_
      refine pg_aload_n (pc := 54) hC dX2_takes_54 0 rfl rfl ?_
      refine pg_iload_n (pc := 55) hC dX2_takes_55 1 rfl rfl ?_
      refine pg_callVWi (pc := 56) (As := [.int c]) (rest := []) hC dX2_takes_56 (cX2_takesExcuse_c l hok c) (cwV 1 hC.2.2.2.2.1 gX2_takes_X2_takesExcuse rfl rfl rfl (by decide +kernel) ⟨Nat.le_of_ble_eq_true rfl, Nat.le_of_ble_eq_true rfl⟩) (ok_mem hok (by decide)) (ok_Ro hok) rfl rfl rfl rfl (Nat.le_of_ble_eq_true rfl) (Nat.zero_le _) (Nat.zero_le _) (fun f2 hokw2 => ?_)
      exact pg_zret (pc := 59) hC dX2_takes_59 rfl (bW_z _ _ _) ⟨(by first | (simp [rB, bE, c3]; done) | (rcases rDig_01 c with q | q <;> rcases rAfterB_01 c with q2 | q2 <;> first | exact absurd q c3 | exact absurd q2 c3 | (simp [rB, bE, c3, q, q2]; done))), rfl, (by rw [show rT z c = (rExcuse z c) from by (first | rfl | (simp [rT, bE, c3]; done))]; exact hokw2)⟩
    · skip
      have c4 : z 0 0 = 2 := hxj
      refine pg_tabIn (pc := 4) hC 60 dX2_takes_4 (by rw [c4]; decide) (by rw [c4]; decide) (by rw [c4]; rfl) (by decide) ?_
      refine pg_aload_n (pc := 60) hC dX2_takes_60 0 rfl rfl ?_
      refine pg_iload_n (pc := 61) hC dX2_takes_61 1 rfl rfl ?_
      refine pg_bipush (pc := 62) (v := 109) hC dX2_takes_62 (by decide) ?_
      refine pg_icmp_ne (pc := 64) hC 71 dX2_takes_64 (by decide)  (fun c5 => ?_) (fun c5 => ?_)
      · skip
        refine pg_iconst (pc := 71) (v := 0) hC dX2_takes_71 (by decide) ?_
        refine pg_iconst (pc := 72) (v := 3) hC dX2_takes_72 (by decide) ?_
        refine pg_callVWi (pc := 73) (As := [.int 0, .int 3]) (rest := []) hC dX2_takes_73 (cX2_goesOn_c l hok 0 3 (Or.inl rfl)) (cwV 2 hC.2.2.2.2.1 gX2_takes_X2_goesOn rfl rfl rfl (by decide +kernel) ⟨Nat.le_of_ble_eq_true rfl, Nat.le_of_ble_eq_true rfl⟩) (ok_mem hok (by decide)) (ok_Ro hok) rfl rfl rfl rfl (Nat.le_of_ble_eq_true rfl) (Nat.zero_le _) (Nat.zero_le _) (fun f3 hokw3 => ?_)
        exact pg_zret (pc := 76) hC dX2_takes_76 rfl rfl ⟨(by first | (simp [rB, bE, c4, c5]; done) | (rcases rDig_01 c with q | q <;> rcases rAfterB_01 c with q2 | q2 <;> first | exact absurd q c5 | exact absurd q2 c5 | (simp [rB, bE, c4, c5, q, q2]; done))), rfl, (by rw [show rT z c = (rGo z 0 3) from by (first | rfl | (simp [rT, bE, c4, c5]; done))]; exact hokw3)⟩
      · skip
        refine pg_iconst (pc := 67) (v := 1) hC dX2_takes_67 (by decide) ?_
        refine pg_goto (pc := 68) hC 72 dX2_takes_68 (by decide) ?_
        refine pg_iconst (pc := 72) (v := 3) hC dX2_takes_72 (by decide) ?_
        refine pg_callVWi (pc := 73) (As := [.int 1, .int 3]) (rest := []) hC dX2_takes_73 (cX2_goesOn_c l hok 1 3 (Or.inr rfl)) (cwV 2 hC.2.2.2.2.1 gX2_takes_X2_goesOn rfl rfl rfl (by decide +kernel) ⟨Nat.le_of_ble_eq_true rfl, Nat.le_of_ble_eq_true rfl⟩) (ok_mem hok (by decide)) (ok_Ro hok) rfl rfl rfl rfl (Nat.le_of_ble_eq_true rfl) (Nat.zero_le _) (Nat.zero_le _) (fun f4 hokw4 => ?_)
        exact pg_zret (pc := 76) hC dX2_takes_76 rfl rfl ⟨(by first | (simp [rB, bE, c4, c5]; done) | (rcases rDig_01 c with q | q <;> rcases rAfterB_01 c with q2 | q2 <;> first | exact absurd q c5 | exact absurd q2 c5 | (simp [rB, bE, c4, c5, q, q2]; done))), rfl, (by rw [show rT z c = (rGo z 1 3) from by (first | rfl | (simp [rT, bE, c4, c5]; done))]; exact hokw4)⟩
    · skip
      have c6 : z 0 0 = 3 := hxj
      refine pg_tabIn (pc := 4) hC 77 dX2_takes_4 (by rw [c6]; decide) (by rw [c6]; decide) (by rw [c6]; rfl) (by decide) ?_
      refine pg_iload_n (pc := 77) hC dX2_takes_77 1 rfl rfl ?_
      refine pg_bipush (pc := 78) (v := 48) hC dX2_takes_78 (by decide) ?_
      refine pg_icmp_eq (pc := 80) hC 97 dX2_takes_80 (by decide)  (fun c7 => ?_) (fun c7 => ?_)
      · skip
        refine pg_iconst (pc := 97) (v := 0) hC dX2_takes_97 (by decide) ?_
        exact pg_zret (pc := 98) hC dX2_takes_98 rfl rfl ⟨(by first | (simp [rB, bE, c6, c7]; done) | (rcases rDig_01 c with q | q <;> rcases rAfterB_01 c with q2 | q2 <;> first | exact absurd q c7 | exact absurd q2 c7 | (simp [rB, bE, c6, c7, q, q2]; done))), rfl, (by rw [show rT z c = z from by (first | rfl | (simp [rT, bE, c6, c7]; done))]; exact hok)⟩
      · skip
        refine pg_aload_n (pc := 83) hC dX2_takes_83 0 rfl rfl ?_
        refine pg_iload_n (pc := 84) hC dX2_takes_84 1 rfl rfl ?_
        refine pg_iconst (pc := 85) (v := 0) hC dX2_takes_85 (by decide) ?_
        refine pg_iconst (pc := 86) (v := 4) hC dX2_takes_86 (by decide) ?_
        refine pg_callVWi (pc := 87) (As := [.int c, .int 0, .int 4]) (rest := []) hC dX2_takes_87 (cX2_takesMinutes_c l hok c 0 4) (cwV 3 hC.2.2.2.2.1 gX2_takes_X2_takesMinutes rfl rfl rfl (by decide +kernel) ⟨Nat.le_of_ble_eq_true rfl, Nat.le_of_ble_eq_true rfl⟩) (ok_mem hok (by decide)) (ok_Ro hok) rfl rfl rfl rfl (Nat.le_of_ble_eq_true rfl) (Nat.zero_le _) (Nat.zero_le _) (fun f5 hokw5 => ?_)
        refine pg_if_eq (pc := 90) hC 97 dX2_takes_90 (by decide)  (fun c8 => ?_) (fun c8 => ?_)
        · skip
          refine pg_iconst (pc := 97) (v := 0) hC dX2_takes_97 (by decide) ?_
          exact pg_zret (pc := 98) hC dX2_takes_98 rfl rfl ⟨(by first | (simp [rB, bE, c6, c7, c8]; done) | (rcases rDig_01 c with q | q <;> rcases rAfterB_01 c with q2 | q2 <;> first | exact absurd q c8 | exact absurd q2 c8 | (simp [rB, bE, c6, c7, c8, q, q2]; done))), rfl, (by rw [show rT z c = (rMin z c 0 4) from by (first | rfl | (simp [rT, bE, c6, c7, c8]; done))]; exact hokw5)⟩
        · skip
          refine pg_iconst (pc := 93) (v := 1) hC dX2_takes_93 (by decide) ?_
          refine pg_goto (pc := 94) hC 98 dX2_takes_94 (by decide) ?_
          exact pg_zret (pc := 98) hC dX2_takes_98 rfl rfl ⟨(by first | (simp [rB, bE, c6, c7, c8]; done) | (rcases rDig_01 c with q | q <;> rcases rAfterB_01 c with q2 | q2 <;> first | exact absurd q c8 | exact absurd q2 c8 | (simp [rB, bE, c6, c7, c8, q, q2]; done))), rfl, (by rw [show rT z c = (rMin z c 0 4) from by (first | rfl | (simp [rT, bE, c6, c7, c8]; done))]; exact hokw5)⟩
    · skip
      have c9 : z 0 0 = 4 := hxj
      refine pg_tabIn (pc := 4) hC 99 dX2_takes_4 (by rw [c9]; decide) (by rw [c9]; decide) (by rw [c9]; rfl) (by decide) ?_
      refine pg_aload_n (pc := 99) hC dX2_takes_99 0 rfl rfl ?_
      refine pg_iload_n (pc := 100) hC dX2_takes_100 1 rfl rfl ?_
      refine pg_aload_n (pc := 101) hC dX2_takes_101 0 rfl rfl ?_
      refine pgR_geti (pc := 102) (v := z 3 0) hC dX2_takes_102 3 (List.mem_of_getElem? (i := 2) rfl) miX2_takes_X2 hok (by decide) rfl ?_
      refine pg_iconst (pc := 105) (v := 5) hC dX2_takes_105 (by decide) ?_
      refine pg_callVWi (pc := 106) (As := [.int c, .int (z 3 0), .int 5]) (rest := []) hC dX2_takes_106 (cX2_takesMinutes_c l hok c (z 3 0) 5) (cwV 3 hC.2.2.2.2.1 gX2_takes_X2_takesMinutes rfl rfl rfl (by decide +kernel) ⟨Nat.le_of_ble_eq_true rfl, Nat.le_of_ble_eq_true rfl⟩) (ok_mem hok (by decide)) (ok_Ro hok) rfl rfl rfl rfl (Nat.le_of_ble_eq_true rfl) (Nat.zero_le _) (Nat.zero_le _) (fun f6 hokw6 => ?_)
      refine pg_if_ne (pc := 109) hC 120 dX2_takes_109 (by decide)  (fun c10 => ?_) (fun c10 => ?_)
      · skip
        refine pg_iconst (pc := 120) (v := 1) hC dX2_takes_120 (by decide) ?_
        refine pg_goto (pc := 121) hC 125 dX2_takes_121 (by decide) ?_
        exact pg_zret (pc := 125) hC dX2_takes_125 rfl rfl ⟨(by first | (simp [rB, bE, c9, c10]; done) | (rcases rDig_01 c with q | q <;> rcases rAfterB_01 c with q2 | q2 <;> first | exact absurd q c10 | exact absurd q2 c10 | (simp [rB, bE, c9, c10, q, q2]; done))), rfl, (by rw [show rT z c = (rMin z c (z 3 0) 5) from by (first | rfl | (simp [rT, bE, c9, c10]; done))]; exact hokw6)⟩
      · skip
        refine pg_aload_n (pc := 112) hC dX2_takes_112 0 rfl rfl ?_
        refine pg_iload_n (pc := 113) hC dX2_takes_113 1 rfl rfl ?_
        refine pg_callVWi (pc := 114) (As := [.int c]) (rest := []) hC dX2_takes_114 (cX2_takesAfterMinutes_c l hokw6 c) (cwV 1 hC.2.2.2.2.1 gX2_takes_X2_takesAfterMinutes rfl rfl rfl (by decide +kernel) ⟨Nat.le_of_ble_eq_true rfl, Nat.le_of_ble_eq_true rfl⟩) (ok_mem hokw6 (by decide)) (ok_Ro hokw6) rfl rfl rfl rfl (Nat.le_of_ble_eq_true rfl) (Nat.zero_le _) (Nat.zero_le _) (fun f7 hokw7 => ?_)
        refine pg_if_eq (pc := 117) hC 124 dX2_takes_117 (by decide)  (fun c11 => ?_) (fun c11 => ?_)
        · skip
          refine pg_iconst (pc := 124) (v := 0) hC dX2_takes_124 (by decide) ?_
          exact pg_zret (pc := 125) hC dX2_takes_125 rfl rfl ⟨(by first | (simp [rB, bE, c9, c10, c11]; done) | (rcases rDig_01 c with q | q <;> rcases rAfterB_01 c with q2 | q2 <;> first | exact absurd q c11 | exact absurd q2 c11 | (simp [rB, bE, c9, c10, c11, q, q2]; done))), rfl, (by rw [show rT z c = (rAfter (rMin z c (z 3 0) 5) c) from by (first | rfl | (simp [rT, bE, c9, c10, c11]; done))]; exact hokw7)⟩
        · skip
          refine pg_iconst (pc := 120) (v := 1) hC dX2_takes_120 (by decide) ?_
          refine pg_goto (pc := 121) hC 125 dX2_takes_121 (by decide) ?_
          exact pg_zret (pc := 125) hC dX2_takes_125 rfl rfl ⟨(by first | (simp [rB, bE, c9, c10, c11]; done) | (rcases rDig_01 c with q | q <;> rcases rAfterB_01 c with q2 | q2 <;> first | exact absurd q c11 | exact absurd q2 c11 | (simp [rB, bE, c9, c10, c11, q, q2]; done))), rfl, (by rw [show rT z c = (rAfter (rMin z c (z 3 0) 5) c) from by (first | rfl | (simp [rT, bE, c9, c10, c11]; done))]; exact hokw7)⟩
    · skip
      have c12 : z 0 0 = 5 := hxj
      refine pg_tabIn (pc := 4) hC 126 dX2_takes_4 (by rw [c12]; decide) (by rw [c12]; decide) (by rw [c12]; rfl) (by decide) ?_
      refine pg_aload_n (pc := 126) hC dX2_takes_126 0 rfl rfl ?_
      refine pg_iload_n (pc := 127) hC dX2_takes_127 1 rfl rfl ?_
      refine pg_callVWi (pc := 128) (As := [.int c]) (rest := []) hC dX2_takes_128 (cX2_takesAfterMinutes_c l hok c) (cwV 1 hC.2.2.2.2.1 gX2_takes_X2_takesAfterMinutes rfl rfl rfl (by decide +kernel) ⟨Nat.le_of_ble_eq_true rfl, Nat.le_of_ble_eq_true rfl⟩) (ok_mem hok (by decide)) (ok_Ro hok) rfl rfl rfl rfl (Nat.le_of_ble_eq_true rfl) (Nat.zero_le _) (Nat.zero_le _) (fun f8 hokw8 => ?_)
      exact pg_zret (pc := 131) hC dX2_takes_131 rfl (z_01 (rAfterB_01 _)) ⟨(by first | (simp [rB, bE, c12]; done) | (rcases rDig_01 c with q | q <;> rcases rAfterB_01 c with q2 | q2 <;> first | exact absurd q c12 | exact absurd q2 c12 | (simp [rB, bE, c12, q, q2]; done))), rfl, (by rw [show rT z c = (rAfter z c) from by (first | rfl | (simp [rT, bE, c12]; done))]; exact hokw8)⟩
    · skip
      have c13 : z 0 0 = 6 := hxj
      refine pg_tabIn (pc := 4) hC 132 dX2_takes_4 (by rw [c13]; decide) (by rw [c13]; decide) (by rw [c13]; rfl) (by decide) ?_
      refine pg_aload_n (pc := 132) hC dX2_takes_132 0 rfl rfl ?_
      refine pg_iload_n (pc := 133) hC dX2_takes_133 1 rfl rfl ?_
      refine pg_callVWi (pc := 134) (As := [.int c]) (rest := []) hC dX2_takes_134 (cX2_takesWitness_c l hok c) (cwV 1 hC.2.2.2.2.1 gX2_takes_X2_takesWitness rfl rfl rfl (by decide +kernel) ⟨Nat.le_of_ble_eq_true rfl, Nat.le_of_ble_eq_true rfl⟩) (ok_mem hok (by decide)) (ok_Ro hok) rfl rfl rfl rfl (Nat.le_of_ble_eq_true rfl) (Nat.zero_le _) (Nat.zero_le _) (fun f9 hokw9 => ?_)
      exact pg_zret (pc := 137) hC dX2_takes_137 rfl (z_01 (rWitB_01 _ _)) ⟨(by first | (simp [rB, bE, c13]; done) | (rcases rDig_01 c with q | q <;> rcases rAfterB_01 c with q2 | q2 <;> first | exact absurd q c13 | exact absurd q2 c13 | (simp [rB, bE, c13, q, q2]; done))), rfl, (by rw [show rT z c = (rWit z c) from by (first | rfl | (simp [rT, bE, c13]; done))]; exact hokw9)⟩
  · skip
    refine pg_tabOut (pc := 4) hC 138 dX2_takes_4 c1 (by decide) ?_
    have n14 : ¬ z 0 0 = 0 := fun q => by rw [q] at c1; revert c1; decide
    have n15 : ¬ z 0 0 = 1 := fun q => by rw [q] at c1; revert c1; decide
    have n16 : ¬ z 0 0 = 2 := fun q => by rw [q] at c1; revert c1; decide
    have n17 : ¬ z 0 0 = 3 := fun q => by rw [q] at c1; revert c1; decide
    have n18 : ¬ z 0 0 = 4 := fun q => by rw [q] at c1; revert c1; decide
    have n19 : ¬ z 0 0 = 5 := fun q => by rw [q] at c1; revert c1; decide
    have n20 : ¬ z 0 0 = 6 := fun q => by rw [q] at c1; revert c1; decide
    refine pg_aload_n (pc := 138) hC dX2_takes_138 0 rfl rfl ?_
    refine pg_iload_n (pc := 139) hC dX2_takes_139 1 rfl rfl ?_
    refine pg_callVWi (pc := 140) (As := [.int c]) (rest := []) hC dX2_takes_140 (cX2_takesComma_c l hok c) (cwV 1 hC.2.2.2.2.1 gX2_takes_X2_takesComma rfl rfl rfl (by decide +kernel) ⟨Nat.le_of_ble_eq_true rfl, Nat.le_of_ble_eq_true rfl⟩) (ok_mem hok (by decide)) (ok_Ro hok) rfl rfl rfl rfl (Nat.le_of_ble_eq_true rfl) (Nat.zero_le _) (Nat.zero_le _) (fun f10 hokw10 => ?_)
    exact pg_zret (pc := 143) hC dX2_takes_143 rfl (z_01 (bE_01 _ _)) ⟨(by first | (simp [rB, bE, n14, n15, n16, n17, n18, n19, n20]; done) | (rcases rDig_01 c with q | q <;> rcases rAfterB_01 c with q2 | q2 <;> first | exact absurd q n20 | exact absurd q2 n20 | (simp [rB, bE, n14, n15, n16, n17, n18, n19, n20, q, q2]; done))), rfl, (by rw [show rT z c = (rComma z c) from by (first | rfl | (simp [rT, bE, n14, n15, n16, n17, n18, n19, n20]; done))]; exact hokw10)⟩
