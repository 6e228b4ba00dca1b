abbrev rmX3_addExcuse : Room := { frames := 0, cells := 0, slots := 0, locals := 0 }
theorem miX3_addExcuse_X3 : ∀ w ∈ wsX30, w ∈ wsX3_addExcuse := fun _ h => List.mem_cons_of_mem _ (List.mem_append_right _ h)
set_option maxHeartbeats 2000000 in
set_option maxRecDepth 20000 in
theorem cX3_addExcuse_c (l : Launch) {κ : pv_Kt} {L : List Nat} {f : Nat → va_E} {x : Nat → Nat → Nat} {i : Nat} (hi : i < 9) {Z : Nat → Nat → Nat → Int32} {z : Nat → Nat → Int32} (hok : pv_ok κ x L f (va_up Z i z)) (n : Nat) (hn : z 1 0 = nI n) (hn12 : n < 12) (kd wh : Int32) : pv_Mi l κ yX3_addExcuse wsX3_addExcuse rmX3_addExcuse L f [.ref (x i 1), .int kd, .int wh] 0 0 (pv_Wi κ x L (va_up Z i (sAdd z n kd wh)) (nI n)) := by
  refine pv_startI (cc := cX3_addExcuse) (maxL := 3) (ret := (some .int)) (by decide) rfl (Nat.le_of_ble_eq_true rfl) (fun A0 P0 E0 S0 M0 a0 B0 T0 C0 hC => ?_)
  refine pg_sub (vs' := [(0, .ref (x i 1)), (1, .int kd), (2, .int wh)]) [0, 1, 2] rfl ?_
  refine pg_aload_n (pc := 0) hC dX3_addExcuse_0 0 rfl rfl ?_
  refine pgS_geta (pc := 1) hC dX3_addExcuse_1 2 (List.mem_of_getElem? (i := 1) rfl) miX3_addExcuse_X3 hok hi (by decide) (by decide) rfl ?_
  refine pg_aload_n (pc := 4) hC dX3_addExcuse_4 0 rfl rfl ?_
  refine pgS_geti (pc := 5) (v := nI n) hC dX3_addExcuse_5 1 (List.mem_of_getElem? (i := 2) rfl) miX3_addExcuse_X3 hok hi (by decide) hn ?_
  refine pg_iload_n (pc := 8) hC dX3_addExcuse_8 1 rfl rfl ?_
  refine pgS_iast (pc := 9) hC dX3_addExcuse_9 2 (n) hok hi (by decide) (by decide) rfl (show n < 12 by omega) (fun f1 hokw1 => ?_)
  refine pg_aload_n (pc := 10) hC dX3_addExcuse_10 0 rfl rfl ?_
  refine pgS_geta (pc := 11) hC dX3_addExcuse_11 3 (List.mem_of_getElem? (i := 3) rfl) miX3_addExcuse_X3 hokw1 hi (by decide) (by decide) rfl ?_
  refine pg_aload_n (pc := 14) hC dX3_addExcuse_14 0 rfl rfl ?_
  refine pgS_geti (pc := 15) (v := nI n) hC dX3_addExcuse_15 1 (List.mem_of_getElem? (i := 2) rfl) miX3_addExcuse_X3 hokw1 hi (by decide) hn ?_
  refine pg_iload_n (pc := 18) hC dX3_addExcuse_18 2 rfl rfl ?_
  refine pgS_iast (pc := 19) hC dX3_addExcuse_19 3 (n) hokw1 hi (by decide) (by decide) rfl (show n < 12 by omega) (fun f2 hokw2 => ?_)
  refine pg_aload_n (pc := 20) hC dX3_addExcuse_20 0 rfl rfl ?_
  refine pg_dup (pc := 21) hC dX3_addExcuse_21 rfl ?_
  refine pgS_geti (pc := 22) (v := nI n) hC dX3_addExcuse_22 1 (List.mem_of_getElem? (i := 2) rfl) miX3_addExcuse_X3 hokw2 hi (by decide) hn ?_
  refine pg_iconst (pc := 25) (v := 1) hC dX3_addExcuse_25 (by decide) ?_
  refine pg_iadd (pc := 26) (v := nI (n + 1)) hC dX3_addExcuse_26 (nI_add (n) (1)) ?_
  refine pgS_puti (pc := 27) hC dX3_addExcuse_27 1 (List.mem_of_getElem? (i := 2) rfl) miX3_addExcuse_X3 hokw2 hi (by decide) (fun f3 hokw3 => ?_)
  refine pg_aload_n (pc := 30) hC dX3_addExcuse_30 0 rfl rfl ?_
  refine pgS_geti (pc := 31) (v := nI (n + 1)) hC dX3_addExcuse_31 1 (List.mem_of_getElem? (i := 2) rfl) miX3_addExcuse_X3 hokw3 hi (by decide) (by simp [zu, va_up]) ?_
  refine pg_iconst (pc := 34) (v := 1) hC dX3_addExcuse_34 (by decide) ?_
  refine pg_isub (pc := 35) (v := nI ((n + 1) - 1)) hC dX3_addExcuse_35 (pk_sub (a := n + 1) (b := 1) (by omega)) ?_
  exact pg_iret (pc := 36) hC dX3_addExcuse_36 rfl ⟨(by rw [Nat.add_sub_cancel]), rfl, hokw3⟩
abbrev rmX3_takeCredit : Room := { frames := 1, cells := 0, slots := 0, locals := 21 }
theorem miX3_takeCredit_X3 : ∀ w ∈ wsX30, w ∈ wsX3_takeCredit := fun _ h => List.mem_cons_of_mem _ (List.mem_append_right _ h)
set_option maxHeartbeats 2000000 in
set_option maxRecDepth 20000 in
theorem cX3_takeCredit_c (l : Launch) {κ : pv_Kt} {L : List Nat} {f : Nat → va_E} {x : Nat → Nat → Nat} {i : Nat} (hi : i < 9) {Z : Nat → Nat → Nat → Int32} {z : Nat → Nat → Int32} (hok : pv_ok κ x L f (va_up Z i z)) (wt : Int32) (hw : wt = -6 ∨ ∃ w : Nat, w < 10 ∧ wt = nI w) (c : Int32) : pv_Mv l κ yX3_takeCredit wsX3_takeCredit rmX3_takeCredit L f [.ref (x i 1), .int wt, .int c] 0 0 (pv_Wv κ x L (va_up Z i (sTake z wt c))) := by
  refine pv_startV (cc := cX3_takeCredit) (maxL := 3) (ret := none) (by decide) rfl (Nat.le_of_ble_eq_true rfl) (fun A0 P0 E0 S0 M0 a0 B0 T0 C0 hC => ?_)
  refine pg_sub (vs' := [(0, .ref (x i 1)), (1, .int wt), (2, .int c)]) [0, 1, 2] rfl ?_
  refine pg_iload_n (pc := 0) hC dX3_takeCredit_0 1 rfl rfl ?_
  refine pg_bipush (pc := 1) (v := (-6)) hC dX3_takeCredit_1 (by decide) ?_
  refine pg_icmp_eq (pc := 3) hC 24 dX3_takeCredit_3 (by decide)  (fun c1 => ?_) (fun c1 => ?_)
  · skip
    exact pg_vret (pc := 24) hC dX3_takeCredit_24 rfl ⟨rfl, (by rw [show sTake z wt c = z from if_pos c1]; exact hok)⟩
  · skip
    obtain ⟨w, hw10, rfl⟩ := hw.resolve_left c1
    refine pg_aload_n (pc := 6) hC dX3_takeCredit_6 0 rfl rfl ?_
    refine pgS_geta (pc := 7) hC dX3_takeCredit_7 6 (List.mem_of_getElem? (i := 1) rfl) miX3_takeCredit_X3 hok hi (by decide) (by decide) rfl ?_
    refine pg_iload_n (pc := 10) hC dX3_takeCredit_10 1 rfl rfl ?_
    refine pg_iconst (pc := 11) (v := 0) hC dX3_takeCredit_11 (by decide) ?_
    refine pg_aload_n (pc := 12) hC dX3_takeCredit_12 0 rfl rfl ?_
    refine pgS_geta (pc := 13) hC dX3_takeCredit_13 6 (List.mem_of_getElem? (i := 1) rfl) miX3_takeCredit_X3 hok hi (by decide) (by decide) rfl ?_
    refine pg_iload_n (pc := 16) hC dX3_takeCredit_16 1 rfl rfl ?_
    refine pgS_iald (pc := 17) (v := z 6 w) hC dX3_takeCredit_17 6 (w) hok hi (by decide) (by decide) rfl (show w < 10 by omega) rfl ?_
    refine pg_iload_n (pc := 18) hC dX3_takeCredit_18 2 rfl rfl ?_
    refine pg_isub (pc := 19) (v := (z 6 w) - c) hC dX3_takeCredit_19 rfl ?_
    refine pg_mmax (pc := 20) hC dX3_takeCredit_20 (List.mem_of_getElem? (i := 2) rfl) (List.mem_of_getElem? (i := 3) rfl) (List.mem_of_getElem? (i := 4) rfl) (List.mem_of_getElem? (i := 5) rfl) (Nat.le_of_ble_eq_true rfl) (Nat.le_of_ble_eq_true rfl) (Nat.zero_le _) (Nat.zero_le _) ?_
    refine pg_top (pc := 23) (x' := sMax0 ((z 6 w) - c)) rfl ?_
    refine pgS_iast (pc := 23) hC dX3_takeCredit_23 6 (w) hok hi (by decide) (by decide) rfl (show w < 10 by omega) (fun f1 hokw1 => ?_)
    exact pg_vret (pc := 24) hC dX3_takeCredit_24 rfl ⟨rfl, (by rw [show sTake z (nI w) c = (zu z 6 w (sMax0 ((z 6 w) - c))) from (if_neg c1).trans (by rw [cl_nI (by omega)])]; exact hokw1)⟩
abbrev rmX3_angerMasterOf : Room := { frames := 1, cells := 0, slots := 0, locals := 21 }
theorem miX3_angerMasterOf_X3 : ∀ w ∈ wsX30, w ∈ wsX3_angerMasterOf := fun _ h => List.mem_cons_of_mem _ (List.mem_append_right _ h)
set_option maxHeartbeats 2000000 in
set_option maxRecDepth 20000 in
theorem cX3_angerMasterOf_c (l : Launch) {κ : pv_Kt} {L : List Nat} {f : Nat → va_E} {x : Nat → Nat → Nat} {i : Nat} (hi : i < 9) {Z : Nat → Nat → Nat → Int32} {z : Nat → Nat → Int32} (hok : pv_ok κ x L f (va_up Z i z)) (p : Nat) (hp : p < 10) : pv_Mv l κ yX3_angerMasterOf wsX3_angerMasterOf rmX3_angerMasterOf L f [.ref (x i 1), .int (nI p)] 0 0 (pv_Wv κ x L (va_up Z i (sAnger z p))) := by
  refine pv_startV (cc := cX3_angerMasterOf) (maxL := 3) (ret := none) (by decide) rfl (Nat.le_of_ble_eq_true rfl) (fun A0 P0 E0 S0 M0 a0 B0 T0 C0 hC => ?_)
  refine pg_sub (vs' := [(0, .ref (x i 1)), (1, .int (nI p))]) [0, 1] rfl ?_
  refine pg_iload_n (pc := 0) hC dX3_angerMasterOf_0 1 rfl rfl ?_
  refine pg_callSNRi (pc := 1) (As := [.int (nI p)]) (rest := []) hC dX3_angerMasterOf_1 (cX4_classOf_c l (p) (by omega)) ⟨va_cnB 1 hC.2.2.2.2.1 gX3_angerMasterOf_X4_classOf_n73 rfl rfl rfl hC.2.2.2.2.2.2.2.2.2.1.2.1.2.2.2.2.1 (hC.2.2.2.2.1 _ (List.mem_of_getElem? (i := 7) rfl)) (by decide +kernel) ⟨Nat.le_of_ble_eq_true rfl, Nat.le_of_ble_eq_true rfl⟩, hC.2.2.2.2.1 _ (List.mem_of_getElem? (i := 6) rfl), trivial⟩ rfl rfl (Nat.le_of_ble_eq_true rfl) (Nat.zero_le _) (Nat.zero_le _) ?_
  refine pg_istore_n (pc := 4) (vs' := [(2, .int (nI (p / 2))), (0, .ref (x i 1)), (1, .int (nI p))]) hC dX3_angerMasterOf_4 rfl (by decide) rfl ?_
  refine pg_aload_n (pc := 5) hC dX3_angerMasterOf_5 1 rfl rfl ?_
  refine pgS_geta (pc := 6) hC dX3_angerMasterOf_6 12 (List.mem_of_getElem? (i := 1) rfl) miX3_angerMasterOf_X3 hok hi (by decide) (by decide) rfl ?_
  refine pg_iload_n (pc := 9) hC dX3_angerMasterOf_9 0 rfl rfl ?_
  refine pg_bipush (pc := 10) (v := 9) hC dX3_angerMasterOf_10 (by decide) ?_
  refine pg_aload_n (pc := 12) hC dX3_angerMasterOf_12 1 rfl rfl ?_
  refine pgS_geta (pc := 13) hC dX3_angerMasterOf_13 12 (List.mem_of_getElem? (i := 1) rfl) miX3_angerMasterOf_X3 hok hi (by decide) (by decide) rfl ?_
  refine pg_iload_n (pc := 16) hC dX3_angerMasterOf_16 0 rfl rfl ?_
  refine pgS_iald (pc := 17) (v := z 12 (p / 2)) hC dX3_angerMasterOf_17 12 (p / 2) hok hi (by decide) (by decide) rfl (show (p / 2) < 5 by omega) rfl ?_
  refine pg_iconst (pc := 18) (v := 1) hC dX3_angerMasterOf_18 (by decide) ?_
  refine pg_iadd (pc := 19) (v := (z 12 (p / 2)) + 1) hC dX3_angerMasterOf_19 rfl ?_
  refine pg_mmin (pc := 20) hC dX3_angerMasterOf_20 (List.mem_of_getElem? (i := 2) rfl) (List.mem_of_getElem? (i := 3) rfl) (List.mem_of_getElem? (i := 4) rfl) (List.mem_of_getElem? (i := 5) rfl) (Nat.le_of_ble_eq_true rfl) (Nat.le_of_ble_eq_true rfl) (Nat.zero_le _) (Nat.zero_le _) ?_
  refine pg_top (pc := 23) (x' := sMin9 ((z 12 (p / 2)) + 1)) rfl ?_
  refine pgS_iast (pc := 23) hC dX3_angerMasterOf_23 12 (p / 2) hok hi (by decide) (by decide) rfl (show (p / 2) < 5 by omega) (fun f1 hokw1 => ?_)
  exact pg_vret (pc := 24) hC dX3_angerMasterOf_24 rfl ⟨rfl, hokw1⟩
abbrev rmX3_stamp : Room := { frames := 2, cells := 0, slots := 0, locals := 43 }
theorem miX3_stamp_X3 : ∀ w ∈ wsX30, w ∈ wsX3_stamp := fun _ h => List.mem_cons_of_mem _ (List.mem_append_right _ h)
set_option maxHeartbeats 2000000 in
set_option maxRecDepth 20000 in
theorem cX3_stamp_c (l : Launch) {κ : pv_Kt} {L : List Nat} {f : Nat → va_E} {x : Nat → Nat → Nat} {i : Nat} (hi : i < 9) {Z : Nat → Nat → Nat → Int32} {z : Nat → Nat → Int32} (hok : pv_ok κ x L f (va_up Z i z)) (p e : Nat) (hp : p < 10) (he : e < 12) (wt : Int32) (hw : wt = -6 ∨ ∃ w : Nat, w < 10 ∧ wt = nI w) (mn : Int32) : pv_Mv l κ yX3_stamp wsX3_stamp rmX3_stamp L f [.ref (x i 1), .int (nI p), .int (nI e), .int wt, .int mn] 0 0 (pv_Wv κ x L (va_up Z i (sStamp z p e wt mn))) := by
  refine pv_startV (cc := cX3_stamp) (maxL := 5) (ret := none) (by decide) rfl (Nat.le_of_ble_eq_true rfl) (fun A0 P0 E0 S0 M0 a0 B0 T0 C0 hC => ?_)
  refine pg_sub (vs' := [(0, .ref (x i 1)), (1, .int (nI p)), (2, .int (nI e)), (3, .int wt), (4, .int mn)]) [0, 1, 2, 3, 4] rfl ?_
  refine pg_aload_n (pc := 0) hC dX3_stamp_0 0 rfl rfl ?_
  refine pgS_geta (pc := 1) hC dX3_stamp_1 5 (List.mem_of_getElem? (i := 1) rfl) miX3_stamp_X3 hok hi (by decide) (by decide) rfl ?_
  refine pg_iload_n (pc := 4) hC dX3_stamp_4 1 rfl rfl ?_
  refine pg_bipush (pc := 5) (v := 12) hC dX3_stamp_5 (by decide) ?_
  refine pg_imul (pc := 7) (v := nI (p * 12)) hC dX3_stamp_7 (pk_mul (p) (12)) ?_
  refine pg_iload_n (pc := 8) hC dX3_stamp_8 2 rfl rfl ?_
  refine pg_iadd (pc := 9) (v := nI (p * 12 + e)) hC dX3_stamp_9 (nI_add (p * 12) (e)) ?_
  refine pg_dup2 (pc := 10) hC dX3_stamp_10 rfl rfl ?_
  refine pgS_iald (pc := 11) (v := z 5 (p * 12 + e)) hC dX3_stamp_11 5 (p * 12 + e) hok hi (by decide) (by decide) rfl (show (p * 12 + e) < 120 by omega) rfl ?_
  refine pg_iconst (pc := 12) (v := 1) hC dX3_stamp_12 (by decide) ?_
  refine pg_iadd (pc := 13) (v := (z 5 (p * 12 + e)) + 1) hC dX3_stamp_13 rfl ?_
  refine pgS_iast (pc := 14) hC dX3_stamp_14 5 (p * 12 + e) hok hi (by decide) (by decide) rfl (show (p * 12 + e) < 120 by omega) (fun f1 hokw1 => ?_)
  refine pg_aload_n (pc := 15) hC dX3_stamp_15 0 rfl rfl ?_
  refine pgS_geta (pc := 16) hC dX3_stamp_16 4 (List.mem_of_getElem? (i := 2) rfl) miX3_stamp_X3 hokw1 hi (by decide) (by decide) rfl ?_
  refine pg_iload_n (pc := 19) hC dX3_stamp_19 2 rfl rfl ?_
  refine pg_dup2 (pc := 20) hC dX3_stamp_20 rfl rfl ?_
  refine pgS_iald (pc := 21) (v := z 4 e) hC dX3_stamp_21 4 (e) hokw1 hi (by decide) (by decide) rfl (show e < 12 by omega) rfl ?_
  refine pg_iconst (pc := 22) (v := 1) hC dX3_stamp_22 (by decide) ?_
  refine pg_iadd (pc := 23) (v := (z 4 e) + 1) hC dX3_stamp_23 rfl ?_
  refine pgS_iast (pc := 24) hC dX3_stamp_24 4 (e) hokw1 hi (by decide) (by decide) rfl (show e < 12 by omega) (fun f2 hokw2 => ?_)
  refine pg_aload_n (pc := 25) hC dX3_stamp_25 0 rfl rfl ?_
  refine pgS_geta (pc := 26) hC dX3_stamp_26 9 (List.mem_of_getElem? (i := 3) rfl) miX3_stamp_X3 hokw2 hi (by decide) (by decide) rfl ?_
  refine pg_iload_n (pc := 29) hC dX3_stamp_29 1 rfl rfl ?_
  refine pg_dup2 (pc := 30) hC dX3_stamp_30 rfl rfl ?_
  refine pgS_iald (pc := 31) (v := z 9 p) hC dX3_stamp_31 9 (p) hokw2 hi (by decide) (by decide) rfl (show p < 10 by omega) rfl ?_
  refine pg_iconst (pc := 32) (v := 1) hC dX3_stamp_32 (by decide) ?_
  refine pg_iadd (pc := 33) (v := (z 9 p) + 1) hC dX3_stamp_33 rfl ?_
  refine pgS_iast (pc := 34) hC dX3_stamp_34 9 (p) hokw2 hi (by decide) (by decide) rfl (show p < 10 by omega) (fun f3 hokw3 => ?_)
  refine pg_aload_n (pc := 35) hC dX3_stamp_35 0 rfl rfl ?_
  refine pg_iload_n (pc := 36) hC dX3_stamp_36 3 rfl rfl ?_
  refine pg_iconst (pc := 37) (v := 1) hC dX3_stamp_37 (by decide) ?_
  refine pg_callVWv (pc := 38) (As := [.int wt, .int 1]) (rest := []) hC dX3_stamp_38 (cX3_takeCredit_c l hi hokw3 wt hw 1) (cwV 2 hC.2.2.2.2.1 gX3_stamp_X3_takeCredit rfl rfl rfl (by decide +kernel) ⟨Nat.le_of_ble_eq_true rfl, Nat.le_of_ble_eq_true rfl⟩) (ok_Sm hokw3 hi 1 (by decide)) (og_So hokw3 hi) rfl rfl rfl rfl (Nat.le_of_ble_eq_true rfl) (Nat.zero_le _) (Nat.zero_le _) (fun f4 hokw4 => ?_)
  refine pg_iload (pc := 41) hC dX3_stamp_41 4 rfl ?_
  refine pg_bipush (pc := 43) (v := 30) hC dX3_stamp_43 (by decide) ?_
  refine pg_icmp_le (pc := 45) hC 53 dX3_stamp_45 (by decide)  (fun c1 => ?_) (fun c1 => ?_)
  · skip
    exact pg_vret (pc := 53) hC dX3_stamp_53 rfl ⟨rfl, (by rw [show sStamp z p e wt mn = _ from if_pos c1]; exact hokw4)⟩
  · skip
    refine pg_aload_n (pc := 48) hC dX3_stamp_48 0 rfl rfl ?_
    refine pg_iload_n (pc := 49) hC dX3_stamp_49 1 rfl rfl ?_
    refine pg_callVWv (pc := 50) (As := [.int (nI p)]) (rest := []) hC dX3_stamp_50 (cX3_angerMasterOf_c l hi hokw4 (p) (by omega)) (cwV 1 hC.2.2.2.2.1 gX3_stamp_X3_angerMasterOf rfl rfl rfl (by decide +kernel) ⟨Nat.le_of_ble_eq_true rfl, Nat.le_of_ble_eq_true rfl⟩) (ok_Sm hokw4 hi 1 (by decide)) (og_So hokw4 hi) rfl rfl rfl rfl (Nat.le_of_ble_eq_true rfl) (Nat.zero_le _) (Nat.zero_le _) (fun f5 hokw5 => ?_)
    exact pg_vret (pc := 53) hC dX3_stamp_53 rfl ⟨rfl, (by rw [show sStamp z p e wt mn = _ from if_neg c1]; exact hokw5)⟩
abbrev rmX3_refuse : Room := { frames := 2, cells := 0, slots := 0, locals := 43 }
theorem miX3_refuse_X3 : ∀ w ∈ wsX30, w ∈ wsX3_refuse := fun _ h => List.mem_cons_of_mem _ (List.mem_append_right _ h)
set_option maxHeartbeats 2000000 in
set_option maxRecDepth 20000 in
theorem cX3_refuse_c (l : Launch) {κ : pv_Kt} {L : List Nat} {f : Nat → va_E} {x : Nat → Nat → Nat} {i : Nat} (hi : i < 9) {Z : Nat → Nat → Nat → Int32} {z : Nat → Nat → Int32} (hok : pv_ok κ x L f (va_up Z i z)) (p : Nat) (hp : p < 10) (wt : Int32) (hw : wt = -6 ∨ ∃ w : Nat, w < 10 ∧ wt = nI w) (mn : Int32) (r : Nat) (hr1 : 1 ≤ r) (hr : r ≤ 4) : pv_Mv l κ yX3_refuse wsX3_refuse rmX3_refuse L f [.ref (x i 1), .int (nI p), .int wt, .int mn, .int (nI r)] 0 0 (pv_Wv κ x L (va_up Z i (sRefuse z p wt mn r))) := by
  refine pv_startV (cc := cX3_refuse) (maxL := 5) (ret := none) (by decide) rfl (Nat.le_of_ble_eq_true rfl) (fun A0 P0 E0 S0 M0 a0 B0 T0 C0 hC => ?_)
  refine pg_sub (vs' := [(0, .ref (x i 1)), (1, .int (nI p)), (2, .int wt), (3, .int mn), (4, .int (nI r))]) [0, 1, 2, 3, 4] rfl ?_
  refine pg_aload_n (pc := 0) hC dX3_refuse_0 0 rfl rfl ?_
  refine pgS_geta (pc := 1) hC dX3_refuse_1 7 (List.mem_of_getElem? (i := 1) rfl) miX3_refuse_X3 hok hi (by decide) (by decide) rfl ?_
  refine pg_iload_n (pc := 4) hC dX3_refuse_4 1 rfl rfl ?_
  refine pg_dup2 (pc := 5) hC dX3_refuse_5 rfl rfl ?_
  refine pgS_iald (pc := 6) (v := z 7 p) hC dX3_refuse_6 7 (p) hok hi (by decide) (by decide) rfl (show p < 10 by omega) rfl ?_
  refine pg_aload_n (pc := 7) hC dX3_refuse_7 0 rfl rfl ?_
  refine pgS_geta (pc := 8) hC dX3_refuse_8 0 (List.mem_of_getElem? (i := 2) rfl) miX3_refuse_X3 hok hi (by decide) (by decide) rfl ?_
  refine pg_iconst (pc := 11) (v := 3) hC dX3_refuse_11 (by decide) ?_
  refine pgS_iald (pc := 12) (v := z 0 3) hC dX3_refuse_12 0 (3) hok hi (by decide) (by decide) rfl (show 3 < 5 by omega) rfl ?_
  refine pg_iload_n (pc := 13) hC dX3_refuse_13 3 rfl rfl ?_
  refine pg_imul (pc := 14) (v := (z 0 3) * mn) hC dX3_refuse_14 rfl ?_
  refine pg_iadd (pc := 15) (v := (z 7 p) + ((z 0 3) * mn)) hC dX3_refuse_15 rfl ?_
  refine pgS_iast (pc := 16) hC dX3_refuse_16 7 (p) hok hi (by decide) (by decide) rfl (show p < 10 by omega) (fun f1 hokw1 => ?_)
  refine pg_aload_n (pc := 17) hC dX3_refuse_17 0 rfl rfl ?_
  refine pgS_geta (pc := 18) hC dX3_refuse_18 10 (List.mem_of_getElem? (i := 3) rfl) miX3_refuse_X3 hokw1 hi (by decide) (by decide) rfl ?_
  refine pg_iload_n (pc := 21) hC dX3_refuse_21 1 rfl rfl ?_
  refine pg_dup2 (pc := 22) hC dX3_refuse_22 rfl rfl ?_
  refine pgS_iald (pc := 23) (v := z 10 p) hC dX3_refuse_23 10 (p) hokw1 hi (by decide) (by decide) rfl (show p < 10 by omega) rfl ?_
  refine pg_iconst (pc := 24) (v := 1) hC dX3_refuse_24 (by decide) ?_
  refine pg_iadd (pc := 25) (v := (z 10 p) + 1) hC dX3_refuse_25 rfl ?_
  refine pgS_iast (pc := 26) hC dX3_refuse_26 10 (p) hokw1 hi (by decide) (by decide) rfl (show p < 10 by omega) (fun f2 hokw2 => ?_)
  refine pg_aload_n (pc := 27) hC dX3_refuse_27 0 rfl rfl ?_
  refine pgS_geta (pc := 28) hC dX3_refuse_28 13 (List.mem_of_getElem? (i := 4) rfl) miX3_refuse_X3 hokw2 hi (by decide) (by decide) rfl ?_
  refine pg_iload (pc := 31) hC dX3_refuse_31 4 rfl ?_
  refine pg_dup2 (pc := 33) hC dX3_refuse_33 rfl rfl ?_
  refine pgS_iald (pc := 34) (v := z 13 r) hC dX3_refuse_34 13 (r) hokw2 hi (by decide) (by decide) rfl (show r < 5 by omega) rfl ?_
  refine pg_iconst (pc := 35) (v := 1) hC dX3_refuse_35 (by decide) ?_
  refine pg_iadd (pc := 36) (v := (z 13 r) + 1) hC dX3_refuse_36 rfl ?_
  refine pgS_iast (pc := 37) hC dX3_refuse_37 13 (r) hokw2 hi (by decide) (by decide) rfl (show r < 5 by omega) (fun f3 hokw3 => ?_)
  refine pg_aload_n (pc := 38) hC dX3_refuse_38 0 rfl rfl ?_
  refine pg_iload_n (pc := 39) hC dX3_refuse_39 1 rfl rfl ?_
  refine pg_callVWv (pc := 40) (As := [.int (nI p)]) (rest := []) hC dX3_refuse_40 (cX3_angerMasterOf_c l hi hokw3 (p) (by omega)) (cwV 1 hC.2.2.2.2.1 gX3_refuse_X3_angerMasterOf rfl rfl rfl (by decide +kernel) ⟨Nat.le_of_ble_eq_true rfl, Nat.le_of_ble_eq_true rfl⟩) (ok_Sm hokw3 hi 1 (by decide)) (og_So hokw3 hi) rfl rfl rfl rfl (Nat.le_of_ble_eq_true rfl) (Nat.zero_le _) (Nat.zero_le _) (fun f4 hokw4 => ?_)
  refine pg_iload (pc := 43) hC dX3_refuse_43 4 rfl ?_
  refine pg_iconst (pc := 45) (v := 4) hC dX3_refuse_45 (by decide) ?_
  refine pg_icmp_neN (pc := 46) hC 55 dX3_refuse_46 (by decide) (r) (4) rfl rfl (by omega) (by omega) (fun c1 => ?_) (fun c1 => ?_)
  · skip
    exact pg_vret (pc := 55) hC dX3_refuse_55 rfl ⟨rfl, (by rw [show sRefuse z p wt mn r = _ from if_neg c1]; exact hokw4)⟩
  · skip
    refine pg_aload_n (pc := 49) hC dX3_refuse_49 0 rfl rfl ?_
    refine pg_iload_n (pc := 50) hC dX3_refuse_50 2 rfl rfl ?_
    refine pg_iconst (pc := 51) (v := 2) hC dX3_refuse_51 (by decide) ?_
    refine pg_callVWv (pc := 52) (As := [.int wt, .int 2]) (rest := []) hC dX3_refuse_52 (cX3_takeCredit_c l hi hokw4 wt hw 2) (cwV 2 hC.2.2.2.2.1 gX3_refuse_X3_takeCredit rfl rfl rfl (by decide +kernel) ⟨Nat.le_of_ble_eq_true rfl, Nat.le_of_ble_eq_true rfl⟩) (ok_Sm hokw4 hi 1 (by decide)) (og_So hokw4 hi) rfl rfl rfl rfl (Nat.le_of_ble_eq_true rfl) (Nat.zero_le _) (Nat.zero_le _) (fun f5 hokw5 => ?_)
    exact pg_vret (pc := 55) hC dX3_refuse_55 rfl ⟨rfl, (by rw [show sRefuse z p wt mn r = _ from if_pos c1]; exact hokw5)⟩
abbrev rmX3_takeOffer : Room := { frames := 4, cells := 0, slots := 0, locals := 95 }
theorem miX3_takeOffer_X3 : ∀ w ∈ wsX30, w ∈ wsX3_takeOffer := fun _ h => List.mem_cons_of_mem _ (List.mem_append_right _ h)
set_option maxHeartbeats 2000000 in
set_option maxRecDepth 20000 in
theorem cX3_takeOffer_c (l : Launch) {κ : pv_Kt} {L : List Nat} {f : Nat → va_E} {x : Nat → Nat → Nat} {i : Nat} (hi : i < 9) {Z : Nat → Nat → Nat → Int32} {z : Nat → Nat → Int32} (hok : pv_ok κ x L f (va_up Z i z)) (p e : Nat) (hp : p < 10) (he : e < 12) (wt : Int32) (hw : wt = -6 ∨ ∃ w : Nat, w < 10 ∧ wt = nI w) (mn : Int32) : pv_Mi l κ yX3_takeOffer wsX3_takeOffer rmX3_takeOffer L f [.ref (x i 1), .int (nI p), .int (nI e), .int wt, .int mn] 0 0 (pv_Wi κ x L (va_up Z i (sOffer z p e wt mn)) (sReason z p e wt mn)) := by
  refine pv_startI (cc := cX3_takeOffer) (maxL := 6) (ret := (some .int)) (by decide) rfl (Nat.le_of_ble_eq_true rfl) (fun A0 P0 E0 S0 M0 a0 B0 T0 C0 hC => ?_)
  refine pg_sub (vs' := [(0, .ref (x i 1)), (1, .int (nI p)), (2, .int (nI e)), (3, .int wt), (4, .int mn)]) [0, 1, 2, 3, 4] rfl ?_
  refine pg_aload_n (pc := 0) hC dX3_takeOffer_0 0 rfl rfl ?_
  refine pg_iload_n (pc := 1) hC dX3_takeOffer_1 1 rfl rfl ?_
  refine pg_iload_n (pc := 2) hC dX3_takeOffer_2 2 rfl rfl ?_
  refine pg_iload_n (pc := 3) hC dX3_takeOffer_3 3 rfl rfl ?_
  refine pg_iload (pc := 4) hC dX3_takeOffer_4 4 rfl ?_
  refine pg_callVRi (pc := 6) (As := [.int (nI p), .int (nI e), .int wt, .int mn]) (rest := []) hC dX3_takeOffer_6 (cX3_reasonAgainst_c l hi hok (p) (e) (by omega) (by omega) wt hw mn) (cwV 4 hC.2.2.2.2.1 gX3_takeOffer_X3_reasonAgainst rfl rfl rfl (by decide +kernel) ⟨Nat.le_of_ble_eq_true rfl, Nat.le_of_ble_eq_true rfl⟩) (ok_Sm hok hi 1 (by decide)) (og_So hok hi) rfl rfl rfl rfl (Nat.le_of_ble_eq_true rfl) (Nat.zero_le _) (Nat.zero_le _) ?_
  refine pg_istore (pc := 9) (vs' := [(5, .int (sReason z (p) (e) wt mn)), (0, .ref (x i 1)), (1, .int (nI p)), (2, .int (nI e)), (3, .int wt), (4, .int mn)]) hC dX3_takeOffer_9 (by decide) rfl ?_
  refine pg_iload (pc := 11) hC dX3_takeOffer_11 0 rfl ?_
  refine pg_if_ne (pc := 13) hC 28 dX3_takeOffer_13 (by decide)  (fun c1 => ?_) (fun c1 => ?_)
  · skip
    obtain ⟨r, hr1, hr4, hr⟩ := sReason_nat z p e wt mn c1
    refine pg_vs (vs' := [(5, .int (nI r)), (0, .ref (x i 1)), (1, .int (nI p)), (2, .int (nI e)), (3, .int wt), (4, .int mn)]) (by rw [hr]) ?_
    refine pg_aload_n (pc := 28) hC dX3_takeOffer_28 1 rfl rfl ?_
    refine pg_iload_n (pc := 29) hC dX3_takeOffer_29 2 rfl rfl ?_
    refine pg_iload_n (pc := 30) hC dX3_takeOffer_30 4 rfl rfl ?_
    refine pg_iload (pc := 31) hC dX3_takeOffer_31 5 rfl ?_
    refine pg_iload (pc := 33) hC dX3_takeOffer_33 0 rfl ?_
    refine pg_callVWv (pc := 35) (As := [.int (nI p), .int wt, .int mn, .int (nI r)]) (rest := []) hC dX3_takeOffer_35 (cX3_refuse_c l hi hok (p) (by omega) wt hw mn (r) (by omega) (by omega)) (cwV 4 hC.2.2.2.2.1 gX3_takeOffer_X3_refuse rfl rfl rfl (by decide +kernel) ⟨Nat.le_of_ble_eq_true rfl, Nat.le_of_ble_eq_true rfl⟩) (ok_Sm hok hi 1 (by decide)) (og_So hok hi) rfl rfl rfl rfl (Nat.le_of_ble_eq_true rfl) (Nat.zero_le _) (Nat.zero_le _) (fun f1 hokw1 => ?_)
    refine pg_aload_n (pc := 38) hC dX3_takeOffer_38 1 rfl rfl ?_
    refine pgS_geta (pc := 39) hC dX3_takeOffer_39 11 (List.mem_of_getElem? (i := 1) rfl) miX3_takeOffer_X3 hokw1 hi (by decide) (by decide) rfl ?_
    refine pg_iload_n (pc := 42) hC dX3_takeOffer_42 2 rfl rfl ?_
    refine pg_aload_n (pc := 43) hC dX3_takeOffer_43 1 rfl rfl ?_
    refine pgS_geta (pc := 44) hC dX3_takeOffer_44 2 (List.mem_of_getElem? (i := 2) rfl) miX3_takeOffer_X3 hokw1 hi (by decide) (by decide) rfl ?_
    refine pg_iload_n (pc := 47) hC dX3_takeOffer_47 3 rfl rfl ?_
    refine pgS_iald (pc := 48) (v := (sRefuse z (p) wt mn (r)) 2 e) hC dX3_takeOffer_48 2 (e) hokw1 hi (by decide) (by decide) rfl (show e < 12 by omega) rfl ?_
    refine pgS_iast (pc := 49) hC dX3_takeOffer_49 11 (p) hokw1 hi (by decide) (by decide) rfl (show p < 10 by omega) (fun f2 hokw2 => ?_)
    refine pg_iload (pc := 50) hC dX3_takeOffer_50 0 rfl ?_
    exact pg_iret (pc := 52) hC dX3_takeOffer_52 rfl ⟨hr.symm, rfl, (by rw [show sOffer z p e wt mn = (zu (sRefuse z (p) wt mn (r)) 11 p ((sRefuse z (p) wt mn (r)) 2 e)) from by unfold sOffer; rw [show sOffer0 z p e wt mn = sRefuse z p wt mn r from (if_neg c1).trans (by rw [hr, cl_nI (by omega)])]]; exact hokw2)⟩
  · skip
    refine pg_aload_n (pc := 16) hC dX3_takeOffer_16 1 rfl rfl ?_
    refine pg_iload_n (pc := 17) hC dX3_takeOffer_17 2 rfl rfl ?_
    refine pg_iload_n (pc := 18) hC dX3_takeOffer_18 3 rfl rfl ?_
    refine pg_iload_n (pc := 19) hC dX3_takeOffer_19 4 rfl rfl ?_
    refine pg_iload (pc := 20) hC dX3_takeOffer_20 5 rfl ?_
    refine pg_callVWv (pc := 22) (As := [.int (nI p), .int (nI e), .int wt, .int mn]) (rest := []) hC dX3_takeOffer_22 (cX3_stamp_c l hi hok (p) (e) (by omega) (by omega) wt hw mn) (cwV 4 hC.2.2.2.2.1 gX3_takeOffer_X3_stamp rfl rfl rfl (by decide +kernel) ⟨Nat.le_of_ble_eq_true rfl, Nat.le_of_ble_eq_true rfl⟩) (ok_Sm hok hi 1 (by decide)) (og_So hok hi) rfl rfl rfl rfl (Nat.le_of_ble_eq_true rfl) (Nat.zero_le _) (Nat.zero_le _) (fun f3 hokw3 => ?_)
    refine pg_goto (pc := 25) hC 38 dX3_takeOffer_25 (by decide) ?_
    refine pg_aload_n (pc := 38) hC dX3_takeOffer_38 1 rfl rfl ?_
    refine pgS_geta (pc := 39) hC dX3_takeOffer_39 11 (List.mem_of_getElem? (i := 1) rfl) miX3_takeOffer_X3 hokw3 hi (by decide) (by decide) rfl ?_
    refine pg_iload_n (pc := 42) hC dX3_takeOffer_42 2 rfl rfl ?_
    refine pg_aload_n (pc := 43) hC dX3_takeOffer_43 1 rfl rfl ?_
    refine pgS_geta (pc := 44) hC dX3_takeOffer_44 2 (List.mem_of_getElem? (i := 2) rfl) miX3_takeOffer_X3 hokw3 hi (by decide) (by decide) rfl ?_
    refine pg_iload_n (pc := 47) hC dX3_takeOffer_47 3 rfl rfl ?_
    refine pgS_iald (pc := 48) (v := (sStamp z (p) (e) wt mn) 2 e) hC dX3_takeOffer_48 2 (e) hokw3 hi (by decide) (by decide) rfl (show e < 12 by omega) rfl ?_
    refine pgS_iast (pc := 49) hC dX3_takeOffer_49 11 (p) hokw3 hi (by decide) (by decide) rfl (show p < 10 by omega) (fun f4 hokw4 => ?_)
    refine pg_iload (pc := 50) hC dX3_takeOffer_50 0 rfl ?_
    exact pg_iret (pc := 52) hC dX3_takeOffer_52 rfl ⟨rfl, rfl, (by rw [show sOffer z p e wt mn = (zu (sStamp z (p) (e) wt mn) 11 p ((sStamp z (p) (e) wt mn) 2 e)) from by unfold sOffer; rw [show sOffer0 z p e wt mn = sStamp z p e wt mn from if_pos c1]]; exact hokw4)⟩
abbrev rmX3_beginNextTerm : Room := { frames := 1, cells := 0, slots := 0, locals := 21 }
theorem miX3_beginNextTerm_X3 : ∀ w ∈ wsX30, w ∈ wsX3_beginNextTerm := fun _ h => List.mem_cons_of_mem _ (List.mem_append_right _ h)
set_option maxHeartbeats 2000000 in
set_option maxRecDepth 20000 in
theorem cX3_beginNextTerm_c (l : Launch) {κ : pv_Kt} {L : List Nat} {f : Nat → va_E} {x : Nat → Nat → Nat} {i : Nat} (hi : i < 9) {Z : Nat → Nat → Nat → Int32} {z : Nat → Nat → Int32} (hok : pv_ok κ x L f (va_up Z i z))  : pv_Mv l κ yX3_beginNextTerm wsX3_beginNextTerm rmX3_beginNextTerm L f [.ref (x i 1)] 0 0 (pv_Wv κ x L (va_up Z i (sTerm z))) := by
  refine pv_startV (cc := cX3_beginNextTerm) (maxL := 2) (ret := none) (by decide) rfl (Nat.le_of_ble_eq_true rfl) (fun A0 P0 E0 S0 M0 a0 B0 T0 C0 hC => ?_)
  refine pg_sub (vs' := [(0, .ref (x i 1))]) [0] rfl ?_
  refine pg_iconst (pc := 0) (v := 0) hC dX3_beginNextTerm_0 (by decide) ?_
  refine pg_istore_n (pc := 1) (vs' := [(1, .int 0), (0, .ref (x i 1))]) hC dX3_beginNextTerm_1 rfl (by decide) rfl ?_
  refine pg_sub (vs' := [(0, .ref (x i 1)), (1, .int 0)]) [1, 0] rfl ?_
  refine pg_loop (pc := 2) (σ := Nat × (Nat → va_E)) (I := fun q => match q with | (k, f1) => k ≤ 120 ∧ pv_ok κ x L f1 (va_up Z i (sT1 z k))) (μ := fun q => match q with | (k, f1) => 120 - k) (VS := fun q => match q with | (k, f1) => [(0, .ref (x i 1)), (1, .int (nI k))]) (FF := fun q => match q with | (k, f1) => f1) ?_ (0, f) ⟨by decide, hok⟩
  intro q hI ih1
  obtain ⟨k, f1⟩ := q
  dsimp only at hI ih1 ⊢
  have hI2 := hI
  obtain ⟨hk, hok1⟩ := hI
  refine pg_iload_n (pc := 2) hC dX3_beginNextTerm_2 1 rfl rfl ?_
  refine pg_aload_n (pc := 3) hC dX3_beginNextTerm_3 0 rfl rfl ?_
  refine pgS_geta (pc := 4) hC dX3_beginNextTerm_4 5 (List.mem_of_getElem? (i := 1) rfl) miX3_beginNextTerm_X3 hok1 hi (by decide) (by decide) rfl ?_
  refine pgS_alen (pc := 7) (v := 120) hC dX3_beginNextTerm_7 5 hok1 hi (by decide) (by decide) (by decide) ?_
  refine pg_icmp_geN (pc := 8) hC 24 dX3_beginNextTerm_8 (by decide) (k) (120) rfl rfl (by omega) (by omega) (fun c2 => ?_) (fun c2 => ?_)
  · skip
    obtain rfl : k = 120 := by omega
    refine pg_vs (vs' := [(0, .ref (x i 1)), (1, .int 120)]) rfl ?_
    refine pg_iconst (pc := 24) (v := 0) hC dX3_beginNextTerm_24 (by decide) ?_
    refine pg_istore_n (pc := 25) (vs' := [(1, .int 0), (0, .ref (x i 1))]) hC dX3_beginNextTerm_25 rfl (by decide) rfl ?_
    refine pg_sub (vs' := [(0, .ref (x i 1)), (1, .int 0)]) [1, 0] rfl ?_
    refine pg_loop (pc := 26) (σ := Nat × (Nat → va_E)) (I := fun q => match q with | (k, f1) => k ≤ 10 ∧ pv_ok κ x L f1 (va_up Z i (sT2 (sT1 z 120) k))) (μ := fun q => match q with | (k, f1) => 10 - k) (VS := fun q => match q with | (k, f1) => [(0, .ref (x i 1)), (1, .int (nI k))]) (FF := fun q => match q with | (k, f1) => f1) ?_ (0, f1) ⟨by decide, hok1⟩
    intro q hI ih3
    obtain ⟨k, f1⟩ := q
    dsimp only at hI ih3 ⊢
    have hI2 := hI
    obtain ⟨hk, hok1⟩ := hI
    refine pg_iload_n (pc := 26) hC dX3_beginNextTerm_26 1 rfl rfl ?_
    refine pg_bipush (pc := 27) (v := 10) hC dX3_beginNextTerm_27 (by decide) ?_
    refine pg_icmp_geN (pc := 29) hC 65 dX3_beginNextTerm_29 (by decide) (k) (10) rfl rfl (by omega) (by omega) (fun c4 => ?_) (fun c4 => ?_)
    · skip
      obtain rfl : k = 10 := by omega
      refine pg_vs (vs' := [(0, .ref (x i 1)), (1, .int 10)]) rfl ?_
      refine pg_iconst (pc := 65) (v := 0) hC dX3_beginNextTerm_65 (by decide) ?_
      refine pg_istore_n (pc := 66) (vs' := [(1, .int 0), (0, .ref (x i 1))]) hC dX3_beginNextTerm_66 rfl (by decide) rfl ?_
      refine pg_sub (vs' := [(0, .ref (x i 1)), (1, .int 0)]) [1, 0] rfl ?_
      refine pg_loop (pc := 67) (σ := Nat × (Nat → va_E)) (I := fun q => match q with | (k, f1) => k ≤ 5 ∧ pv_ok κ x L f1 (va_up Z i (sT3 (sT2 (sT1 z 120) 10) k))) (μ := fun q => match q with | (k, f1) => 5 - k) (VS := fun q => match q with | (k, f1) => [(0, .ref (x i 1)), (1, .int (nI k))]) (FF := fun q => match q with | (k, f1) => f1) ?_ (0, f1) ⟨by decide, hok1⟩
      intro q hI ih5
      obtain ⟨k, f1⟩ := q
      dsimp only at hI ih5 ⊢
      have hI2 := hI
      obtain ⟨hk, hok1⟩ := hI
      refine pg_iload_n (pc := 67) hC dX3_beginNextTerm_67 1 rfl rfl ?_
      refine pg_iconst (pc := 68) (v := 5) hC dX3_beginNextTerm_68 (by decide) ?_
      refine pg_icmp_geN (pc := 69) hC 92 dX3_beginNextTerm_69 (by decide) (k) (5) rfl rfl (by omega) (by omega) (fun c6 => ?_) (fun c6 => ?_)
      · skip
        obtain rfl : k = 5 := by omega
        refine pg_vs (vs' := [(0, .ref (x i 1)), (1, .int 5)]) rfl ?_
        refine pg_aload_n (pc := 92) hC dX3_beginNextTerm_92 0 rfl rfl ?_
        refine pg_dup (pc := 93) hC dX3_beginNextTerm_93 rfl ?_
        refine pgS_geti (pc := 94) (v := (sT3 (sT2 (sT1 z 120) 10) 5) 14 0) hC dX3_beginNextTerm_94 14 (List.mem_of_getElem? (i := 9) rfl) miX3_beginNextTerm_X3 hok1 hi (by decide) rfl ?_
        refine pg_iconst (pc := 97) (v := 1) hC dX3_beginNextTerm_97 (by decide) ?_
        refine pg_iadd (pc := 98) (v := ((sT3 (sT2 (sT1 z 120) 10) 5) 14 0) + 1) hC dX3_beginNextTerm_98 rfl ?_
        refine pgS_puti (pc := 99) hC dX3_beginNextTerm_99 14 (List.mem_of_getElem? (i := 9) rfl) miX3_beginNextTerm_X3 hok1 hi (by decide) (fun f1 hokw1 => ?_)
        exact pg_vret (pc := 102) hC dX3_beginNextTerm_102 rfl ⟨rfl, hokw1⟩
      · skip
        refine pg_aload_n (pc := 72) hC dX3_beginNextTerm_72 0 rfl rfl ?_
        refine pgS_geta (pc := 73) hC dX3_beginNextTerm_73 12 (List.mem_of_getElem? (i := 8) rfl) miX3_beginNextTerm_X3 hok1 hi (by decide) (by decide) rfl ?_
        refine pg_iload_n (pc := 76) hC dX3_beginNextTerm_76 1 rfl rfl ?_
        refine pg_aload_n (pc := 77) hC dX3_beginNextTerm_77 0 rfl rfl ?_
        refine pgS_geta (pc := 78) hC dX3_beginNextTerm_78 12 (List.mem_of_getElem? (i := 8) rfl) miX3_beginNextTerm_X3 hok1 hi (by decide) (by decide) rfl ?_
        refine pg_iload_n (pc := 81) hC dX3_beginNextTerm_81 1 rfl rfl ?_
        refine pgS_iald (pc := 82) (v := (sT3 (sT2 (sT1 z 120) 10) k) 12 k) hC dX3_beginNextTerm_82 12 (k) hok1 hi (by decide) (by decide) rfl (show k < 5 by omega) rfl ?_
        refine pg_iconst (pc := 83) (v := 2) hC dX3_beginNextTerm_83 (by decide) ?_
        refine pg_idiv (pc := 84) (v := ((sT3 (sT2 (sT1 z 120) 10) k) 12 k) / 2) hC dX3_beginNextTerm_84 (by decide) rfl ?_
        refine pgS_iast (pc := 85) hC dX3_beginNextTerm_85 12 (k) hok1 hi (by decide) (by decide) rfl (show k < 5 by omega) (fun f2 hokw2 => ?_)
        refine pg_iinc (pc := 86) (v := nI (k + 1)) (vs' := [(1, .int (nI (k + 1))), (0, .ref (x i 1))]) hC dX3_beginNextTerm_86 1 rfl (nI_add (k) 1) (by decide) rfl ?_
        refine pg_goto (pc := 89) hC 67 dX3_beginNextTerm_89 (by decide) ?_
        refine pg_sub (vs' := [(0, .ref (x i 1)), (1, .int (nI (k + 1)))]) [1, 0] rfl ?_
        exact ih5 (k + 1, f2) ⟨by omega, hokw2⟩ (by omega)
    · skip
      refine pg_aload_n (pc := 32) hC dX3_beginNextTerm_32 0 rfl rfl ?_
      refine pgS_geta (pc := 33) hC dX3_beginNextTerm_33 11 (List.mem_of_getElem? (i := 2) rfl) miX3_beginNextTerm_X3 hok1 hi (by decide) (by decide) rfl ?_
      refine pg_iload_n (pc := 36) hC dX3_beginNextTerm_36 1 rfl rfl ?_
      refine pg_bipush (pc := 37) (v := (-6)) hC dX3_beginNextTerm_37 (by decide) ?_
      refine pgS_iast (pc := 39) hC dX3_beginNextTerm_39 11 (k) hok1 hi (by decide) (by decide) rfl (show k < 10 by omega) (fun f3 hokw3 => ?_)
      refine pg_aload_n (pc := 40) hC dX3_beginNextTerm_40 0 rfl rfl ?_
      refine pgS_geta (pc := 41) hC dX3_beginNextTerm_41 6 (List.mem_of_getElem? (i := 3) rfl) miX3_beginNextTerm_X3 hokw3 hi (by decide) (by decide) rfl ?_
      refine pg_iload_n (pc := 44) hC dX3_beginNextTerm_44 1 rfl rfl ?_
      refine pg_bipush (pc := 45) (v := 9) hC dX3_beginNextTerm_45 (by decide) ?_
      refine pg_aload_n (pc := 47) hC dX3_beginNextTerm_47 0 rfl rfl ?_
      refine pgS_geta (pc := 48) hC dX3_beginNextTerm_48 6 (List.mem_of_getElem? (i := 3) rfl) miX3_beginNextTerm_X3 hokw3 hi (by decide) (by decide) rfl ?_
      refine pg_iload_n (pc := 51) hC dX3_beginNextTerm_51 1 rfl rfl ?_
      refine pgS_iald (pc := 52) (v := (sT2 (sT1 z 120) k) 6 k) hC dX3_beginNextTerm_52 6 (k) hokw3 hi (by decide) (by decide) rfl (show k < 10 by omega) rfl ?_
      refine pg_iconst (pc := 53) (v := 2) hC dX3_beginNextTerm_53 (by decide) ?_
      refine pg_iadd (pc := 54) (v := ((sT2 (sT1 z 120) k) 6 k) + 2) hC dX3_beginNextTerm_54 rfl ?_
      refine pg_mmin (pc := 55) hC dX3_beginNextTerm_55 (List.mem_of_getElem? (i := 4) rfl) (List.mem_of_getElem? (i := 5) rfl) (List.mem_of_getElem? (i := 6) rfl) (List.mem_of_getElem? (i := 7) rfl) (Nat.le_of_ble_eq_true rfl) (Nat.le_of_ble_eq_true rfl) (Nat.zero_le _) (Nat.zero_le _) ?_
      refine pg_top (pc := 58) (x' := sMin9 (((sT2 (sT1 z 120) k) 6 k) + 2)) rfl ?_
      refine pgS_iast (pc := 58) hC dX3_beginNextTerm_58 6 (k) hokw3 hi (by decide) (by decide) rfl (show k < 10 by omega) (fun f4 hokw4 => ?_)
      refine pg_iinc (pc := 59) (v := nI (k + 1)) (vs' := [(1, .int (nI (k + 1))), (0, .ref (x i 1))]) hC dX3_beginNextTerm_59 1 rfl (nI_add (k) 1) (by decide) rfl ?_
      refine pg_goto (pc := 62) hC 26 dX3_beginNextTerm_62 (by decide) ?_
      refine pg_sub (vs' := [(0, .ref (x i 1)), (1, .int (nI (k + 1)))]) [1, 0] rfl ?_
      exact ih3 (k + 1, f4) ⟨by omega, hokw4⟩ (by omega)
  · skip
    refine pg_aload_n (pc := 11) hC dX3_beginNextTerm_11 0 rfl rfl ?_
    refine pgS_geta (pc := 12) hC dX3_beginNextTerm_12 5 (List.mem_of_getElem? (i := 1) rfl) miX3_beginNextTerm_X3 hok1 hi (by decide) (by decide) rfl ?_
    refine pg_iload_n (pc := 15) hC dX3_beginNextTerm_15 1 rfl rfl ?_
    refine pg_iconst (pc := 16) (v := 0) hC dX3_beginNextTerm_16 (by decide) ?_
    refine pgS_iast (pc := 17) hC dX3_beginNextTerm_17 5 (k) hok1 hi (by decide) (by decide) rfl (show k < 120 by omega) (fun f5 hokw5 => ?_)
    refine pg_iinc (pc := 18) (v := nI (k + 1)) (vs' := [(1, .int (nI (k + 1))), (0, .ref (x i 1))]) hC dX3_beginNextTerm_18 1 rfl (nI_add (k) 1) (by decide) rfl ?_
    refine pg_goto (pc := 21) hC 2 dX3_beginNextTerm_21 (by decide) ?_
    refine pg_sub (vs' := [(0, .ref (x i 1)), (1, .int (nI (k + 1)))]) [1, 0] rfl ?_
    exact ih1 (k + 1, f5) ⟨by omega, hokw5⟩ (by omega)
