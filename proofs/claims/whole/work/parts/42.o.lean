abbrev rmX5_lay : Room := { frames := 0, cells := 0, slots := 0, locals := 0 }
theorem miX5_lay_X5 : ∀ w ∈ wsX50, w ∈ wsX5_lay := fun _ h => List.mem_cons_of_mem _ (List.mem_append_right _ h)
set_option maxHeartbeats 2000000 in
set_option maxRecDepth 20000 in
theorem cX5_lay_c (l : Launch) {κ : pv_Kt} {L : List Nat} {f : Nat → va_E} {x : Nat → Nat → Nat} {Z : Nat → Nat → Nat → Int32} {g : Nat → Nat → Int32} (hok : pv_ok κ x L f (va_up Z 11 g)) (p k : Nat) (hp : p < 10) (hk : k < 6) (v : Int32) : pv_Mv l κ yX5_lay wsX5_lay rmX5_lay L f [.ref (x 11 2), .int (nI p), .int (nI k), .int v] 0 0 (pv_Wv κ x L (va_up Z 11 (zu g 0 (54 + 6 * p + k) v))) := by
  refine pv_startV (cc := cX5_lay) (maxL := 4) (ret := none) (by decide) rfl (Nat.le_of_ble_eq_true rfl) (fun A0 P0 E0 S0 M0 a0 B0 T0 C0 hC => ?_)
  refine pg_sub (vs' := [(0, .ref (x 11 2)), (1, .int (nI p)), (2, .int (nI k)), (3, .int v)]) [0, 1, 2, 3] rfl ?_
  refine pg_aload_n (pc := 0) hC dX5_lay_0 0 rfl rfl ?_
  refine pgM_geta (pc := 1) hC dX5_lay_1 0 (List.mem_of_getElem? (i := 1) rfl) miX5_lay_X5 hok (by decide) ?_
  refine pg_bipush (pc := 4) (v := 54) hC dX5_lay_4 (by decide) ?_
  refine pg_bipush (pc := 6) (v := 6) hC dX5_lay_6 (by decide) ?_
  refine pg_iload_n (pc := 8) hC dX5_lay_8 1 rfl rfl ?_
  refine pg_imul (pc := 9) (v := nI (6 * p)) hC dX5_lay_9 (pk_mul (6) (p)) ?_
  refine pg_iadd (pc := 10) (v := nI (54 + (6 * p))) hC dX5_lay_10 (nI_add (54) (6 * p)) ?_
  refine pg_iload_n (pc := 11) hC dX5_lay_11 2 rfl rfl ?_
  refine pg_iadd (pc := 12) (v := nI (54 + (6 * p) + k)) hC dX5_lay_12 (nI_add (54 + (6 * p)) (k)) ?_
  refine pg_iload_n (pc := 13) hC dX5_lay_13 3 rfl rfl ?_
  refine pgM_iast (pc := 14) hC dX5_lay_14 0 (54 + (6 * p) + k) hok (by decide) rfl (show (54 + (6 * p) + k) < 234 by omega) (fun f1 hokw1 => ?_)
  exact pg_vret (pc := 15) hC dX5_lay_15 rfl ⟨rfl, hokw1⟩
abbrev rmX5_angers : Room := { frames := 0, cells := 0, slots := 0, locals := 0 }
theorem miX5_angers_X5 : ∀ w ∈ wsX50, w ∈ wsX5_angers := fun _ h => List.mem_cons_of_mem _ (List.mem_append_right _ h)
set_option maxHeartbeats 2000000 in
set_option maxRecDepth 20000 in
theorem cX5_angers_c (l : Launch) {κ : pv_Kt} {L : List Nat} {f : Nat → va_E} {x : Nat → Nat → Nat} {Z : Nat → Nat → Nat → Int32} {g : Nat → Nat → Int32} (hok : pv_ok κ x L f (va_up Z 11 g)) (p : Nat) (hp : p < 10) : pv_Mv l κ yX5_angers wsX5_angers rmX5_angers L f [.ref (x 11 2), .int (nI p)] 0 0 (pv_Wv κ x L (va_up Z 11 (mAng g p))) := by
  refine pv_startV (cc := cX5_angers) (maxL := 3) (ret := none) (by decide) rfl (Nat.le_of_ble_eq_true rfl) (fun A0 P0 E0 S0 M0 a0 B0 T0 C0 hC => ?_)
  refine pg_sub (vs' := [(0, .ref (x 11 2)), (1, .int (nI p))]) [0, 1] rfl ?_
  refine pg_bipush (pc := 0) (v := 13) hC dX5_angers_0 (by decide) ?_
  refine pg_iload_n (pc := 2) hC dX5_angers_2 1 rfl rfl ?_
  refine pg_iconst (pc := 3) (v := 2) hC dX5_angers_3 (by decide) ?_
  refine pg_idiv (pc := 4) (v := nI (p / 2)) hC dX5_angers_4 (by decide) (pk_div (a := p) (d := 2) (by omega) (by omega) (by omega)) ?_
  refine pg_iadd (pc := 5) (v := nI (13 + (p / 2))) hC dX5_angers_5 (nI_add (13) (p / 2)) ?_
  refine pg_istore_n (pc := 6) (vs' := [(2, .int (nI (13 + (p / 2)))), (0, .ref (x 11 2)), (1, .int (nI p))]) hC dX5_angers_6 rfl (by decide) rfl ?_
  refine pg_aload_n (pc := 7) hC dX5_angers_7 1 rfl rfl ?_
  refine pgM_geta (pc := 8) hC dX5_angers_8 0 (List.mem_of_getElem? (i := 1) rfl) miX5_angers_X5 hok (by decide) ?_
  refine pg_iload_n (pc := 11) hC dX5_angers_11 0 rfl rfl ?_
  refine pg_aload_n (pc := 12) hC dX5_angers_12 1 rfl rfl ?_
  refine pgM_geta (pc := 13) hC dX5_angers_13 0 (List.mem_of_getElem? (i := 1) rfl) miX5_angers_X5 hok (by decide) ?_
  refine pg_iload_n (pc := 16) hC dX5_angers_16 0 rfl rfl ?_
  refine pgM_iald (pc := 17) (v := g 0 (13 + (p / 2))) hC dX5_angers_17 0 (13 + (p / 2)) hok (by decide) (by decide) (by decide) rfl (show (13 + (p / 2)) < 234 by omega) rfl ?_
  refine pg_bipush (pc := 18) (v := 9) hC dX5_angers_18 (by decide) ?_
  refine pg_icmp_ge (pc := 20) hC 34 dX5_angers_20 (by decide)  (fun c1 => ?_) (fun c1 => ?_)
  · skip
    refine pg_bipush (pc := 34) (v := 9) hC dX5_angers_34 (by decide) ?_
    refine pgM_iast (pc := 36) hC dX5_angers_36 0 (13 + (p / 2)) hok (by decide) rfl (show (13 + (p / 2)) < 234 by omega) (fun f1 hokw1 => ?_)
    exact pg_vret (pc := 37) hC dX5_angers_37 rfl ⟨rfl, (by rw [show mAng g p = (zu g 0 (13 + (p / 2)) 9) from by unfold mAng; rw [if_pos c1]]; exact hokw1)⟩
  · skip
    refine pg_aload_n (pc := 23) hC dX5_angers_23 1 rfl rfl ?_
    refine pgM_geta (pc := 24) hC dX5_angers_24 0 (List.mem_of_getElem? (i := 1) rfl) miX5_angers_X5 hok (by decide) ?_
    refine pg_iload_n (pc := 27) hC dX5_angers_27 0 rfl rfl ?_
    refine pgM_iald (pc := 28) (v := g 0 (13 + (p / 2))) hC dX5_angers_28 0 (13 + (p / 2)) hok (by decide) (by decide) (by decide) rfl (show (13 + (p / 2)) < 234 by omega) rfl ?_
    refine pg_iconst (pc := 29) (v := 1) hC dX5_angers_29 (by decide) ?_
    refine pg_iadd (pc := 30) (v := (g 0 (13 + (p / 2))) + 1) hC dX5_angers_30 rfl ?_
    refine pg_goto (pc := 31) hC 36 dX5_angers_31 (by decide) ?_
    refine pgM_iast (pc := 36) hC dX5_angers_36 0 (13 + (p / 2)) hok (by decide) rfl (show (13 + (p / 2)) < 234 by omega) (fun f2 hokw2 => ?_)
    exact pg_vret (pc := 37) hC dX5_angers_37 rfl ⟨rfl, (by rw [show mAng g p = (zu g 0 (13 + (p / 2)) ((g 0 (13 + (p / 2))) + 1)) from by unfold mAng; rw [if_neg c1]]; exact hokw2)⟩
abbrev rmX5_loses : Room := { frames := 1, cells := 0, slots := 0, locals := 23 }
set_option maxHeartbeats 2000000 in
set_option maxRecDepth 20000 in
theorem cX5_loses_c (l : Launch) {κ : pv_Kt} {L : List Nat} {f : Nat → va_E} {x : Nat → Nat → Nat} {Z : Nat → Nat → Nat → Int32} {g : Nat → Nat → Int32} (hok : pv_ok κ x L f (va_up Z 11 g)) (wt : Int32) (hw : wt = -6 ∨ ∃ w : Nat, w < 10 ∧ wt = nI w) (c : Int32) : pv_Mv l κ yX5_loses wsX5_loses rmX5_loses L f [.ref (x 11 2), .int wt, .int c] 0 0 (pv_Wv κ x L (va_up Z 11 (mLos g wt c))) := by
  refine pv_startV (cc := cX5_loses) (maxL := 4) (ret := none) (by decide) rfl (Nat.le_of_ble_eq_true rfl) (fun A0 P0 E0 S0 M0 a0 B0 T0 C0 hC => ?_)
  refine pg_sub (vs' := [(0, .ref (x 11 2)), (1, .int wt), (2, .int c)]) [0, 1, 2] rfl ?_
  refine pg_iload_n (pc := 0) hC dX5_loses_0 1 rfl rfl ?_
  refine pg_bipush (pc := 1) (v := (-6)) hC dX5_loses_1 (by decide) ?_
  refine pg_icmp_eq (pc := 3) hC 30 dX5_loses_3 (by decide)  (fun c1 => ?_) (fun c1 => ?_)
  · skip
    exact pg_vret (pc := 30) hC dX5_loses_30 rfl ⟨rfl, (by rw [show mLos g wt c = g from if_pos c1]; exact hok)⟩
  · skip
    obtain ⟨w, hw10, rfl⟩ := hw.resolve_left c1
    refine pg_aload_n (pc := 6) hC dX5_loses_6 0 rfl rfl ?_
    refine pg_iload_n (pc := 7) hC dX5_loses_7 1 rfl rfl ?_
    refine pg_iconst (pc := 8) (v := 0) hC dX5_loses_8 (by decide) ?_
    refine pg_callVRi (pc := 9) (As := [.int (nI w), .int 0]) (rest := []) hC dX5_loses_9 (cX5_of_c l hok (w) (0) (by omega) (by omega)) (cwV 2 hC.2.2.2.2.1 gX5_loses_X5_of rfl rfl rfl (by decide +kernel) ⟨Nat.le_of_ble_eq_true rfl, Nat.le_of_ble_eq_true rfl⟩) (ok_mem hok (by decide)) (ok_Mo hok) rfl rfl rfl rfl (Nat.le_of_ble_eq_true rfl) (Nat.zero_le _) (Nat.zero_le _) ?_
    refine pg_iload_n (pc := 12) hC dX5_loses_12 2 rfl rfl ?_
    refine pg_isub (pc := 13) (v := (g 0 (54 + 6 * w + 0)) - c) hC dX5_loses_13 rfl ?_
    refine pg_istore_n (pc := 14) (vs' := [(3, .int ((g 0 (54 + 6 * w + 0)) - c)), (0, .ref (x 11 2)), (1, .int (nI w)), (2, .int c)]) hC dX5_loses_14 rfl (by decide) rfl ?_
    refine pg_aload_n (pc := 15) hC dX5_loses_15 1 rfl rfl ?_
    refine pg_iload_n (pc := 16) hC dX5_loses_16 2 rfl rfl ?_
    refine pg_iconst (pc := 17) (v := 0) hC dX5_loses_17 (by decide) ?_
    refine pg_iload_n (pc := 18) hC dX5_loses_18 0 rfl rfl ?_
    refine pg_if_ge (pc := 19) hC 26 dX5_loses_19 (by decide)  (fun c2 => ?_) (fun c2 => ?_)
    · skip
      refine pg_iload_n (pc := 26) hC dX5_loses_26 0 rfl rfl ?_
      refine pg_callVWv (pc := 27) (As := [.int (nI w), .int 0, .int ((g 0 (54 + 6 * w + 0)) - c)]) (rest := []) hC dX5_loses_27 (cX5_lay_c l hok (w) (0) (by omega) (by omega) ((g 0 (54 + 6 * w + 0)) - c)) (cwV 3 hC.2.2.2.2.1 gX5_loses_X5_lay rfl rfl rfl (by decide +kernel) ⟨Nat.le_of_ble_eq_true rfl, Nat.le_of_ble_eq_true rfl⟩) (ok_mem hok (by decide)) (ok_Mo hok) rfl rfl rfl rfl (Nat.le_of_ble_eq_true rfl) (Nat.zero_le _) (Nat.zero_le _) (fun f1 hokw1 => ?_)
      exact pg_vret (pc := 30) hC dX5_loses_30 rfl ⟨rfl, (by rw [show mLos g (nI w) c = (zu g 0 (54 + 6 * w + 0) ((g 0 (54 + 6 * w + 0)) - c)) from (if_neg c1).trans (by rw [cl_nI (by omega), if_pos c2])]; exact hokw1)⟩
    · skip
      refine pg_iconst (pc := 22) (v := 0) hC dX5_loses_22 (by decide) ?_
      refine pg_goto (pc := 23) hC 27 dX5_loses_23 (by decide) ?_
      refine pg_callVWv (pc := 27) (As := [.int (nI w), .int 0, .int 0]) (rest := []) hC dX5_loses_27 (cX5_lay_c l hok (w) (0) (by omega) (by omega) 0) (cwV 3 hC.2.2.2.2.1 gX5_loses_X5_lay rfl rfl rfl (by decide +kernel) ⟨Nat.le_of_ble_eq_true rfl, Nat.le_of_ble_eq_true rfl⟩) (ok_mem hok (by decide)) (ok_Mo hok) rfl rfl rfl rfl (Nat.le_of_ble_eq_true rfl) (Nat.zero_le _) (Nat.zero_le _) (fun f2 hokw2 => ?_)
      exact pg_vret (pc := 30) hC dX5_loses_30 rfl ⟨rfl, (by rw [show mLos g (nI w) c = (zu g 0 (54 + 6 * w + 0) 0) from (if_neg c1).trans (by rw [cl_nI (by omega), if_neg c2])]; exact hokw2)⟩
abbrev rmX5_record : Room := { frames := 1, cells := 0, slots := 0, locals := 24 }
theorem miX5_record_X5 : ∀ w ∈ wsX50, w ∈ wsX5_record := fun _ h => List.mem_cons_of_mem _ (List.mem_append_right _ h)
set_option maxHeartbeats 2000000 in
set_option maxRecDepth 20000 in
theorem cX5_record_c (l : Launch) {κ : pv_Kt} {L : List Nat} {f : Nat → va_E} {x : Nat → Nat → Nat} {Z : Nat → Nat → Nat → Int32} {g : Nat → Nat → Int32} (hok : pv_ok κ x L f (va_up Z 11 g)) (sn : Nat) (hsn : g 2 0 = nI sn) (hsn6 : sn ≤ 6)  : pv_Mv l κ yX5_record wsX5_record rmX5_record L f [.ref (x 11 2)] 0 0 (pv_Wv κ x L (va_up Z 11 (mRec g sn))) := by
  refine pv_startV (cc := cX5_record) (maxL := 2) (ret := none) (by decide) rfl (Nat.le_of_ble_eq_true rfl) (fun A0 P0 E0 S0 M0 a0 B0 T0 C0 hC => ?_)
  refine pg_sub (vs' := [(0, .ref (x 11 2))]) [0] rfl ?_
  refine pg_aload_n (pc := 0) hC dX5_record_0 0 rfl rfl ?_
  refine pgM_geti (pc := 1) (v := nI sn) hC dX5_record_1 2 (List.mem_of_getElem? (i := 1) rfl) miX5_record_X5 hok (by decide) hsn ?_
  refine pg_bipush (pc := 4) (v := 6) hC dX5_record_4 (by decide) ?_
  refine pg_icmp_neN (pc := 6) hC 50 dX5_record_6 (by decide) (sn) (6) rfl rfl (by omega) (by omega) (fun c1 => ?_) (fun c1 => ?_)
  · skip
    refine pg_aload_n (pc := 50) hC dX5_record_50 0 rfl rfl ?_
    refine pgM_geta (pc := 51) hC dX5_record_51 0 (List.mem_of_getElem? (i := 3) rfl) miX5_record_X5 hok (by decide) ?_
    refine pg_iconst (pc := 54) (v := 0) hC dX5_record_54 (by decide) ?_
    refine pg_aload_n (pc := 55) hC dX5_record_55 0 rfl rfl ?_
    refine pgM_geta (pc := 56) hC dX5_record_56 1 (List.mem_of_getElem? (i := 2) rfl) miX5_record_X5 hok (by decide) ?_
    refine pg_sipush (pc := 59) (v := 234) hC dX5_record_59 (by decide) ?_
    refine pg_aload_n (pc := 62) hC dX5_record_62 0 rfl rfl ?_
    refine pgM_geti (pc := 63) (v := nI sn) hC dX5_record_63 2 (List.mem_of_getElem? (i := 1) rfl) miX5_record_X5 hok (by decide) hsn ?_
    refine pg_imul (pc := 66) (v := nI (234 * sn)) hC dX5_record_66 (pk_mul (234) (sn)) ?_
    refine pgM_copy (pc := 67) hC dX5_record_67 0 1 (0) (234 * sn) hok (by decide) (by decide) (by decide) rfl rfl (show 0 + 234 ≤ 234 by omega) (show 234 * sn + 234 ≤ 1404 by omega) (va_cwS 4 hC.2.2.2.2.1 gX5_record_X5_copyState rfl rfl rfl (by decide +kernel) ⟨Nat.le_of_ble_eq_true rfl, Nat.le_of_ble_eq_true rfl⟩) (Nat.le_of_ble_eq_true rfl) (Nat.zero_le _) (Nat.zero_le _) (fun f1 hokw1 => ?_)
    refine pg_aload_n (pc := 70) hC dX5_record_70 0 rfl rfl ?_
    refine pg_dup (pc := 71) hC dX5_record_71 rfl ?_
    refine pgM_geti (pc := 72) (v := nI sn) hC dX5_record_72 2 (List.mem_of_getElem? (i := 1) rfl) miX5_record_X5 hokw1 (by decide) hsn ?_
    refine pg_iconst (pc := 75) (v := 1) hC dX5_record_75 (by decide) ?_
    refine pg_iadd (pc := 76) (v := nI (sn + 1)) hC dX5_record_76 (nI_add (sn) (1)) ?_
    refine pgM_puti (pc := 77) hC dX5_record_77 2 (List.mem_of_getElem? (i := 1) rfl) miX5_record_X5 hokw1 (by decide) (fun f2 hokw2 => ?_)
    exact pg_vret (pc := 80) hC dX5_record_80 rfl ⟨rfl, (by rw [show mRec g sn = _ from if_neg c1]; exact hokw2)⟩
  · skip
    refine pg_iconst (pc := 9) (v := 0) hC dX5_record_9 (by decide) ?_
    refine pg_istore_n (pc := 10) (vs' := [(1, .int 0), (0, .ref (x 11 2))]) hC dX5_record_10 rfl (by decide) rfl ?_
    refine pg_sub (vs' := [(0, .ref (x 11 2)), (1, .int 0)]) [1, 0] rfl ?_
    refine pg_loop (pc := 11) (σ := Nat × (Nat → va_E)) (I := fun q => match q with | (k, f1) => k ≤ 1170 ∧ pv_ok κ x L f1 (va_up Z 11 (mSh g k))) (μ := fun q => match q with | (k, f1) => 1170 - k) (VS := fun q => match q with | (k, f1) => [(0, .ref (x 11 2)), (1, .int (nI k))]) (FF := fun q => match q with | (k, f1) => f1) ?_ (0, f) ⟨by decide, hok⟩
    intro q hI ih2
    obtain ⟨k, f1⟩ := q
    dsimp only at hI ih2 ⊢
    have hI2 := hI
    obtain ⟨hk, hok1⟩ := hI
    refine pg_iload_n (pc := 11) hC dX5_record_11 1 rfl rfl ?_
    refine pg_sipush (pc := 12) (v := 1170) hC dX5_record_12 (by decide) ?_
    refine pg_icmp_geN (pc := 15) hC 40 dX5_record_15 (by decide) (k) (1170) rfl rfl (by omega) (by omega) (fun c3 => ?_) (fun c3 => ?_)
    · skip
      obtain ⟨G, hGd⟩ : ∃ G, G = mSh g 1170 := ⟨_, rfl⟩
      have hokG : pv_ok κ x L f1 (va_up Z 11 G) := by rw [hGd, show 1170 = k by omega]; exact hok1
      refine pg_aload_n (pc := 40) hC dX5_record_40 0 rfl rfl ?_
      refine pg_dup (pc := 41) hC dX5_record_41 rfl ?_
      refine pgM_geti (pc := 42) (v := 6) hC dX5_record_42 2 (List.mem_of_getElem? (i := 1) rfl) miX5_record_X5 hokG (by decide) (by rw [hGd, mSh_o g (by decide), hsn, c1]; rfl) ?_
      refine pg_iconst (pc := 45) (v := 1) hC dX5_record_45 (by decide) ?_
      refine pg_isub (pc := 46) (v := 5) hC dX5_record_46 (by decide) ?_
      refine pgM_puti (pc := 47) hC dX5_record_47 2 (List.mem_of_getElem? (i := 1) rfl) miX5_record_X5 hokG (by decide) (fun f3 hokw3 => ?_)
      refine pg_aload_n (pc := 50) hC dX5_record_50 0 rfl rfl ?_
      refine pgM_geta (pc := 51) hC dX5_record_51 0 (List.mem_of_getElem? (i := 3) rfl) miX5_record_X5 hokw3 (by decide) ?_
      refine pg_iconst (pc := 54) (v := 0) hC dX5_record_54 (by decide) ?_
      refine pg_aload_n (pc := 55) hC dX5_record_55 0 rfl rfl ?_
      refine pgM_geta (pc := 56) hC dX5_record_56 1 (List.mem_of_getElem? (i := 2) rfl) miX5_record_X5 hokw3 (by decide) ?_
      refine pg_sipush (pc := 59) (v := 234) hC dX5_record_59 (by decide) ?_
      refine pg_aload_n (pc := 62) hC dX5_record_62 0 rfl rfl ?_
      refine pgM_geti (pc := 63) (v := 5) hC dX5_record_63 2 (List.mem_of_getElem? (i := 1) rfl) miX5_record_X5 hokw3 (by decide) (by simp [zu, zc, va_up]) ?_
      refine pg_imul (pc := 66) (v := 1170) hC dX5_record_66 (by decide) ?_
      refine pgM_copy (pc := 67) hC dX5_record_67 0 1 (0) (1170) hokw3 (by decide) (by decide) (by decide) rfl rfl (show 0 + 234 ≤ 234 by omega) (show 1170 + 234 ≤ 1404 by omega) (va_cwS 4 hC.2.2.2.2.1 gX5_record_X5_copyState rfl rfl rfl (by decide +kernel) ⟨Nat.le_of_ble_eq_true rfl, Nat.le_of_ble_eq_true rfl⟩) (Nat.le_of_ble_eq_true rfl) (Nat.zero_le _) (Nat.zero_le _) (fun f4 hokw4 => ?_)
      refine pg_aload_n (pc := 70) hC dX5_record_70 0 rfl rfl ?_
      refine pg_dup (pc := 71) hC dX5_record_71 rfl ?_
      refine pgM_geti (pc := 72) (v := 5) hC dX5_record_72 2 (List.mem_of_getElem? (i := 1) rfl) miX5_record_X5 hokw4 (by decide) (by simp [zu, zc, va_up]) ?_
      refine pg_iconst (pc := 75) (v := 1) hC dX5_record_75 (by decide) ?_
      refine pg_iadd (pc := 76) (v := 6) hC dX5_record_76 (by decide) ?_
      refine pgM_puti (pc := 77) hC dX5_record_77 2 (List.mem_of_getElem? (i := 1) rfl) miX5_record_X5 hokw4 (by decide) (fun f5 hokw5 => ?_)
      exact pg_vret (pc := 80) hC dX5_record_80 rfl ⟨rfl, (by rw [show mRec g sn = _ from if_pos c1, ← hGd]; exact hokw5)⟩
    · skip
      refine pg_aload_n (pc := 18) hC dX5_record_18 0 rfl rfl ?_
      refine pgM_geta (pc := 19) hC dX5_record_19 1 (List.mem_of_getElem? (i := 2) rfl) miX5_record_X5 hok1 (by decide) ?_
      refine pg_iload_n (pc := 22) hC dX5_record_22 1 rfl rfl ?_
      refine pg_aload_n (pc := 23) hC dX5_record_23 0 rfl rfl ?_
      refine pgM_geta (pc := 24) hC dX5_record_24 1 (List.mem_of_getElem? (i := 2) rfl) miX5_record_X5 hok1 (by decide) ?_
      refine pg_iload_n (pc := 27) hC dX5_record_27 1 rfl rfl ?_
      refine pg_sipush (pc := 28) (v := 234) hC dX5_record_28 (by decide) ?_
      refine pg_iadd (pc := 31) (v := nI (k + 234)) hC dX5_record_31 (nI_add (k) (234)) ?_
      refine pgM_iald (pc := 32) (v := (mSh g k) 1 (k + 234)) hC dX5_record_32 1 (k + 234) hok1 (by decide) (by decide) (by decide) rfl (show (k + 234) < 1404 by omega) rfl ?_
      refine pgM_iast (pc := 33) hC dX5_record_33 1 (k) hok1 (by decide) rfl (show k < 1404 by omega) (fun f6 hokw6 => ?_)
      refine pg_iinc (pc := 34) (v := nI (k + 1)) (vs' := [(1, .int (nI (k + 1))), (0, .ref (x 11 2))]) hC dX5_record_34 1 rfl (nI_add (k) 1) (by decide) rfl ?_
      refine pg_goto (pc := 37) hC 11 dX5_record_37 (by decide) ?_
      refine pg_sub (vs' := [(0, .ref (x 11 2)), (1, .int (nI (k + 1)))]) [1, 0] rfl ?_
      exact ih2 (k + 1, f6) ⟨by omega, hokw6⟩ (by omega)
abbrev rmX5_undo : Room := { frames := 1, cells := 0, slots := 0, locals := 24 }
theorem miX5_undo_X5 : ∀ w ∈ wsX50, w ∈ wsX5_undo := fun _ h => List.mem_cons_of_mem _ (List.mem_append_right _ h)
set_option maxHeartbeats 2000000 in
set_option maxRecDepth 20000 in
theorem cX5_undo_c (l : Launch) {κ : pv_Kt} {L : List Nat} {f : Nat → va_E} {x : Nat → Nat → Nat} {Z : Nat → Nat → Nat → Int32} {g : Nat → Nat → Int32} (hok : pv_ok κ x L f (va_up Z 11 g)) (sn : Nat) (hsn : g 2 0 = nI sn) (hsn6 : sn ≤ 6)  : pv_Mi l κ yX5_undo wsX5_undo rmX5_undo L f [.ref (x 11 2)] 0 0 (pv_Wi κ x L (va_up Z 11 (if sn = 0 then g else mUnd g sn)) (tUndo sn)) := by
  refine pv_startI (cc := cX5_undo) (maxL := 1) (ret := (some .int)) (by decide) rfl (Nat.le_of_ble_eq_true rfl) (fun A0 P0 E0 S0 M0 a0 B0 T0 C0 hC => ?_)
  refine pg_sub (vs' := [(0, .ref (x 11 2))]) [0] rfl ?_
  refine pg_aload_n (pc := 0) hC dX5_undo_0 0 rfl rfl ?_
  refine pgM_geti (pc := 1) (v := nI sn) hC dX5_undo_1 2 (List.mem_of_getElem? (i := 1) rfl) miX5_undo_X5 hok (by decide) hsn ?_
  refine pg_if_ne (pc := 4) hC 10 dX5_undo_4 (by decide)  (fun c1 => ?_) (fun c1 => ?_)
  · skip
    have sn1 : 1 ≤ sn := by rcases Nat.eq_zero_or_pos sn with q | q; (subst q; exact absurd rfl c1); exact q
    refine pg_aload_n (pc := 10) hC dX5_undo_10 0 rfl rfl ?_
    refine pg_dup (pc := 11) hC dX5_undo_11 rfl ?_
    refine pgM_geti (pc := 12) (v := nI sn) hC dX5_undo_12 2 (List.mem_of_getElem? (i := 1) rfl) miX5_undo_X5 hok (by decide) hsn ?_
    refine pg_iconst (pc := 15) (v := 1) hC dX5_undo_15 (by decide) ?_
    refine pg_isub (pc := 16) (v := nI (sn - 1)) hC dX5_undo_16 (pk_sub (a := sn) (b := 1) (by omega)) ?_
    refine pgM_puti (pc := 17) hC dX5_undo_17 2 (List.mem_of_getElem? (i := 1) rfl) miX5_undo_X5 hok (by decide) (fun f1 hokw1 => ?_)
    refine pg_aload_n (pc := 20) hC dX5_undo_20 0 rfl rfl ?_
    refine pgM_geta (pc := 21) hC dX5_undo_21 1 (List.mem_of_getElem? (i := 2) rfl) miX5_undo_X5 hokw1 (by decide) ?_
    refine pg_sipush (pc := 24) (v := 234) hC dX5_undo_24 (by decide) ?_
    refine pg_aload_n (pc := 27) hC dX5_undo_27 0 rfl rfl ?_
    refine pgM_geti (pc := 28) (v := nI (sn - 1)) hC dX5_undo_28 2 (List.mem_of_getElem? (i := 1) rfl) miX5_undo_X5 hokw1 (by decide) (by simp [zu, zc, va_up]) ?_
    refine pg_imul (pc := 31) (v := nI (234 * (sn - 1))) hC dX5_undo_31 (pk_mul (234) (sn - 1)) ?_
    refine pg_aload_n (pc := 32) hC dX5_undo_32 0 rfl rfl ?_
    refine pgM_geta (pc := 33) hC dX5_undo_33 0 (List.mem_of_getElem? (i := 3) rfl) miX5_undo_X5 hokw1 (by decide) ?_
    refine pg_iconst (pc := 36) (v := 0) hC dX5_undo_36 (by decide) ?_
    refine pgM_copy (pc := 37) hC dX5_undo_37 1 0 (234 * (sn - 1)) (0) hokw1 (by decide) (by decide) (by decide) rfl rfl (show 234 * (sn - 1) + 234 ≤ 1404 by omega) (show 0 + 234 ≤ 234 by omega) (va_cwS 4 hC.2.2.2.2.1 gX5_undo_X5_copyState rfl rfl rfl (by decide +kernel) ⟨Nat.le_of_ble_eq_true rfl, Nat.le_of_ble_eq_true rfl⟩) (Nat.le_of_ble_eq_true rfl) (Nat.zero_le _) (Nat.zero_le _) (fun f2 hokw2 => ?_)
    refine pg_aload_n (pc := 40) hC dX5_undo_40 0 rfl rfl ?_
    refine pgM_geti (pc := 41) (v := nI (sn - 1)) hC dX5_undo_41 2 (List.mem_of_getElem? (i := 1) rfl) miX5_undo_X5 hokw2 (by decide) (by simp [zu, zc, va_up]) ?_
    exact pg_iret (pc := 44) hC dX5_undo_44 rfl ⟨(by first | rfl | (simp [tUndo, (show ¬ sn = 0 by omega)]; done) | (simp_all [tUndo]; done)), rfl, (by rw [if_neg (show ¬ sn = 0 by omega)]; exact hokw2)⟩
  · skip
    have sn0 : sn = 0 := (nI_eq (b := 0) (by omega) (by decide)).mp c1
    refine pg_bipush (pc := 7) (v := (-5)) hC dX5_undo_7 (by decide) ?_
    exact pg_iret (pc := 9) hC dX5_undo_9 rfl ⟨(by first | rfl | (simp [tUndo, sn0]; done) | (simp_all [tUndo]; done)), rfl, (by rw [if_pos sn0]; exact hok)⟩
abbrev rmX5_save : Room := { frames := 1, cells := 0, slots := 0, locals := 24 }
theorem miX5_save_X5 : ∀ w ∈ wsX50, w ∈ wsX5_save := fun _ h => List.mem_cons_of_mem _ (List.mem_append_right _ h)
set_option maxHeartbeats 2000000 in
set_option maxRecDepth 20000 in
theorem cX5_save_c (l : Launch) {κ : pv_Kt} {L : List Nat} {f : Nat → va_E} {x : Nat → Nat → Nat} {Z : Nat → Nat → Nat → Int32} {g : Nat → Nat → Int32} (hok : pv_ok κ x L f (va_up Z 11 g)) (sl : Int32) : pv_Mi l κ yX5_save wsX5_save rmX5_save L f [.ref (x 11 2), .int sl] 0 0 (pv_Wi κ x L (va_up Z 11 (if bW sl 0 1 = 0 then g else mSav g (cl sl))) (if bW sl 0 1 = 0 then -2 else g 0 11)) := by
  refine pv_startI (cc := cX5_save) (maxL := 2) (ret := (some .int)) (by decide) rfl (Nat.le_of_ble_eq_true rfl) (fun A0 P0 E0 S0 M0 a0 B0 T0 C0 hC => ?_)
  refine pg_sub (vs' := [(0, .ref (x 11 2)), (1, .int sl)]) [0, 1] rfl ?_
  refine pg_iload_n (pc := 0) hC dX5_save_0 1 rfl rfl ?_
  refine pg_iconst (pc := 1) (v := 0) hC dX5_save_1 (by decide) ?_
  refine pg_iconst (pc := 2) (v := 1) hC dX5_save_2 (by decide) ?_
  refine pg_callSRi (pc := 3) (As := [.int sl, .int 0, .int 1]) (rest := []) hC dX5_save_3 (cX5_in_c l sl 0 1) (va_cwS 3 hC.2.2.2.2.1 gX5_save_X5_in rfl rfl rfl (by decide +kernel) ⟨Nat.le_of_ble_eq_true rfl, Nat.le_of_ble_eq_true rfl⟩) rfl rfl (Nat.le_of_ble_eq_true rfl) (Nat.zero_le _) (Nat.zero_le _) ?_
  refine pg_if_ne (pc := 6) hC 12 dX5_save_6 (by decide)  (fun c1 => ?_) (fun c1 => ?_)
  · skip
    obtain ⟨j, hj1, rfl⟩ := bW_nat (m := 1) rfl (by decide) c1
    have clj : cl (nI j) = j := cl_nI (by omega)
    refine pg_aload_n (pc := 12) hC dX5_save_12 0 rfl rfl ?_
    refine pgM_geta (pc := 13) hC dX5_save_13 0 (List.mem_of_getElem? (i := 1) rfl) miX5_save_X5 hok (by decide) ?_
    refine pg_iconst (pc := 16) (v := 0) hC dX5_save_16 (by decide) ?_
    refine pg_aload_n (pc := 17) hC dX5_save_17 0 rfl rfl ?_
    refine pgM_geta (pc := 18) hC dX5_save_18 3 (List.mem_of_getElem? (i := 2) rfl) miX5_save_X5 hok (by decide) ?_
    refine pg_sipush (pc := 21) (v := 234) hC dX5_save_21 (by decide) ?_
    refine pg_iload_n (pc := 24) hC dX5_save_24 1 rfl rfl ?_
    refine pg_imul (pc := 25) (v := nI (234 * j)) hC dX5_save_25 (pk_mul (234) (j)) ?_
    refine pgM_copy (pc := 26) hC dX5_save_26 0 3 (0) (234 * j) hok (by decide) (by decide) (by decide) rfl rfl (show 0 + 234 ≤ 234 by omega) (show 234 * j + 234 ≤ 468 by omega) (va_cwS 4 hC.2.2.2.2.1 gX5_save_X5_copyState rfl rfl rfl (by decide +kernel) ⟨Nat.le_of_ble_eq_true rfl, Nat.le_of_ble_eq_true rfl⟩) (Nat.le_of_ble_eq_true rfl) (Nat.zero_le _) (Nat.zero_le _) (fun f1 hokw1 => ?_)
    refine pg_aload_n (pc := 29) hC dX5_save_29 0 rfl rfl ?_
    refine pgM_geta (pc := 30) hC dX5_save_30 4 (List.mem_of_getElem? (i := 3) rfl) miX5_save_X5 hokw1 (by decide) ?_
    refine pg_iload_n (pc := 33) hC dX5_save_33 1 rfl rfl ?_
    refine pg_iconst (pc := 34) (v := 1) hC dX5_save_34 (by decide) ?_
    refine pgM_zast (pc := 35) hC dX5_save_35 (j) hokw1 rfl (by omega) rfl (fun f2 hokw2 => ?_)
    refine pg_aload_n (pc := 36) hC dX5_save_36 0 rfl rfl ?_
    refine pgM_geta (pc := 37) hC dX5_save_37 0 (List.mem_of_getElem? (i := 1) rfl) miX5_save_X5 hokw2 (by decide) ?_
    refine pg_bipush (pc := 40) (v := 11) hC dX5_save_40 (by decide) ?_
    refine pgM_iald (pc := 42) (v := g 0 11) hC dX5_save_42 0 (11) hokw2 (by decide) (by decide) (by decide) rfl (show 11 < 234 by omega) rfl ?_
    exact pg_iret (pc := 43) hC dX5_save_43 rfl ⟨(by rw [if_neg c1]), rfl, (by rw [if_neg c1, clj]; exact hokw2)⟩
  · skip
    refine pg_bipush (pc := 9) (v := (-2)) hC dX5_save_9 (by decide) ?_
    exact pg_iret (pc := 11) hC dX5_save_11 rfl ⟨(by rw [if_pos c1]), rfl, (by rw [if_pos c1]; exact hok)⟩
abbrev rmX5_restore : Room := { frames := 2, cells := 0, slots := 0, locals := 45 }
theorem miX5_restore_X5 : ∀ w ∈ wsX50, w ∈ wsX5_restore := fun _ h => List.mem_cons_of_mem _ (List.mem_append_right _ h)
set_option maxHeartbeats 2000000 in
set_option maxRecDepth 20000 in
theorem cX5_restore_c (l : Launch) {κ : pv_Kt} {L : List Nat} {f : Nat → va_E} {x : Nat → Nat → Nat} {Z : Nat → Nat → Nat → Int32} {g : Nat → Nat → Int32} (hok : pv_ok κ x L f (va_up Z 11 g)) (sn : Nat) (hsn : g 2 0 = nI sn) (hsn6 : sn ≤ 6) (sl : Int32) : pv_Mi l κ yX5_restore wsX5_restore rmX5_restore L f [.ref (x 11 2), .int sl] 0 0 (pv_Wi κ x L (va_up Z 11 (if bW sl 0 1 = 0 then g else if g 4 (cl sl) = 0 then g else mRst g sn (cl sl))) (if bW sl 0 1 = 0 then -2 else if g 4 (cl sl) = 0 then -5 else mRst g sn (cl sl) 0 11)) := by
  refine pv_startI (cc := cX5_restore) (maxL := 2) (ret := (some .int)) (by decide) rfl (Nat.le_of_ble_eq_true rfl) (fun A0 P0 E0 S0 M0 a0 B0 T0 C0 hC => ?_)
  refine pg_sub (vs' := [(0, .ref (x 11 2)), (1, .int sl)]) [0, 1] rfl ?_
  refine pg_iload_n (pc := 0) hC dX5_restore_0 1 rfl rfl ?_
  refine pg_iconst (pc := 1) (v := 0) hC dX5_restore_1 (by decide) ?_
  refine pg_iconst (pc := 2) (v := 1) hC dX5_restore_2 (by decide) ?_
  refine pg_callSRi (pc := 3) (As := [.int sl, .int 0, .int 1]) (rest := []) hC dX5_restore_3 (cX5_in_c l sl 0 1) (va_cwS 3 hC.2.2.2.2.1 gX5_restore_X5_in rfl rfl rfl (by decide +kernel) ⟨Nat.le_of_ble_eq_true rfl, Nat.le_of_ble_eq_true rfl⟩) rfl rfl (Nat.le_of_ble_eq_true rfl) (Nat.zero_le _) (Nat.zero_le _) ?_
  refine pg_if_ne (pc := 6) hC 12 dX5_restore_6 (by decide)  (fun c1 => ?_) (fun c1 => ?_)
  · skip
    obtain ⟨j, hj1, rfl⟩ := bW_nat (m := 1) rfl (by decide) c1
    have clj : cl (nI j) = j := cl_nI (by omega)
    refine pg_aload_n (pc := 12) hC dX5_restore_12 0 rfl rfl ?_
    refine pgM_geta (pc := 13) hC dX5_restore_13 4 (List.mem_of_getElem? (i := 1) rfl) miX5_restore_X5 hok (by decide) ?_
    refine pg_iload_n (pc := 16) hC dX5_restore_16 1 rfl rfl ?_
    refine pgM_zald (pc := 17) (v := g 4 j) hC dX5_restore_17 (j) hok rfl (by omega) rfl ?_
    refine pg_if_ne (pc := 18) hC 24 dX5_restore_18 (by decide)  (fun c2 => ?_) (fun c2 => ?_)
    · skip
      refine pg_aload_n (pc := 24) hC dX5_restore_24 0 rfl rfl ?_
      refine pg_callVWv (pc := 25) (As := []) (rest := []) hC dX5_restore_25 (cX5_record_c l hok sn hsn hsn6) (cwV 0 hC.2.2.2.2.1 gX5_restore_X5_record rfl rfl rfl (by decide +kernel) ⟨Nat.le_of_ble_eq_true rfl, Nat.le_of_ble_eq_true rfl⟩) (ok_mem hok (by decide)) (ok_Mo hok) rfl rfl rfl rfl (Nat.le_of_ble_eq_true rfl) (Nat.zero_le _) (Nat.zero_le _) (fun f1 hokw1 => ?_)
      refine pg_aload_n (pc := 28) hC dX5_restore_28 0 rfl rfl ?_
      refine pgM_geta (pc := 29) hC dX5_restore_29 3 (List.mem_of_getElem? (i := 2) rfl) miX5_restore_X5 hokw1 (by decide) ?_
      refine pg_sipush (pc := 32) (v := 234) hC dX5_restore_32 (by decide) ?_
      refine pg_iload_n (pc := 35) hC dX5_restore_35 1 rfl rfl ?_
      refine pg_imul (pc := 36) (v := nI (234 * j)) hC dX5_restore_36 (pk_mul (234) (j)) ?_
      refine pg_aload_n (pc := 37) hC dX5_restore_37 0 rfl rfl ?_
      refine pgM_geta (pc := 38) hC dX5_restore_38 0 (List.mem_of_getElem? (i := 3) rfl) miX5_restore_X5 hokw1 (by decide) ?_
      refine pg_iconst (pc := 41) (v := 0) hC dX5_restore_41 (by decide) ?_
      refine pgM_copy (pc := 42) hC dX5_restore_42 3 0 (234 * j) (0) hokw1 (by decide) (by decide) (by decide) rfl rfl (show 234 * j + 234 ≤ 468 by omega) (show 0 + 234 ≤ 234 by omega) (va_cwS 4 hC.2.2.2.2.1 gX5_restore_X5_copyState rfl rfl rfl (by decide +kernel) ⟨Nat.le_of_ble_eq_true rfl, Nat.le_of_ble_eq_true rfl⟩) (Nat.le_of_ble_eq_true rfl) (Nat.zero_le _) (Nat.zero_le _) (fun f2 hokw2 => ?_)
      refine pg_aload_n (pc := 45) hC dX5_restore_45 0 rfl rfl ?_
      refine pgM_geta (pc := 46) hC dX5_restore_46 0 (List.mem_of_getElem? (i := 3) rfl) miX5_restore_X5 hokw2 (by decide) ?_
      refine pg_bipush (pc := 49) (v := 11) hC dX5_restore_49 (by decide) ?_
      refine pgM_iald (pc := 51) (v := (cS ((mRec g sn) 3) (234 * j) ((mRec g sn) 0) (0) 234) 11) hC dX5_restore_51 0 (11) hokw2 (by decide) (by decide) (by decide) rfl (show 11 < 234 by omega) rfl ?_
      exact pg_iret (pc := 52) hC dX5_restore_52 rfl ⟨(by rw [if_neg c1, clj, if_neg c2]; rfl), rfl, (by rw [if_neg c1, clj, if_neg c2]; exact hokw2)⟩
    · skip
      refine pg_bipush (pc := 21) (v := (-5)) hC dX5_restore_21 (by decide) ?_
      exact pg_iret (pc := 23) hC dX5_restore_23 rfl ⟨(by rw [if_neg c1, clj, if_pos c2]), rfl, (by rw [if_neg c1, clj, if_pos c2]; exact hok)⟩
  · skip
    refine pg_bipush (pc := 9) (v := (-2)) hC dX5_restore_9 (by decide) ?_
    exact pg_iret (pc := 11) hC dX5_restore_11 rfl ⟨(by rw [if_pos c1]), rfl, (by rw [if_pos c1]; exact hok)⟩
abbrev rmX5_offerNow : Room := { frames := 5, cells := 0, slots := 0, locals := 116 }
theorem miX5_offerNow_X5 : ∀ w ∈ wsX50, w ∈ wsX5_offerNow := fun _ h => List.mem_cons_of_mem _ (List.mem_append_right _ h)
set_option maxHeartbeats 2000000 in
set_option maxRecDepth 20000 in
theorem cX5_offerNow_c (l : Launch) {κ : pv_Kt} {L : List Nat} {f : Nat → va_E} {x : Nat → Nat → Nat} {Z : Nat → Nat → Nat → Int32} {g : Nat → Nat → Int32} (hok : pv_ok κ x L f (va_up Z 11 g)) {z : Nat → Nat → Int32} {n : Nat} (hS : mS z n (g 0)) (p e : Nat) (hp : p < 10) (he : e < n) (wt : Int32) (hw : wt = -6 ∨ ∃ w : Nat, w < 10 ∧ wt = nI w) (mn : Int32) : pv_Mi l κ yX5_offerNow wsX5_offerNow rmX5_offerNow L f [.ref (x 11 2), .int (nI p), .int (nI e), .int wt, .int mn] 0 0 (pv_Ei κ x L (mE Z (sReason z p e wt mn) (fun g2 => mS (sOffer z p e wt mn) n (g2 0) ∧ ∀ l : Nat, l ≠ 0 → g2 l = g l))) := by
  refine pv_startI (cc := cX5_offerNow) (maxL := 6) (ret := (some .int)) (by decide) rfl (Nat.le_of_ble_eq_true rfl) (fun A0 P0 E0 S0 M0 a0 B0 T0 C0 hC => ?_)
  refine pg_sub (vs' := [(0, .ref (x 11 2)), (1, .int (nI p)), (2, .int (nI e)), (3, .int wt), (4, .int mn)]) [0, 1, 2, 3, 4] rfl ?_
  have hn12 := hS.2.1.n12
  refine pg_aload_n (pc := 0) hC dX5_offerNow_0 0 rfl rfl ?_
  refine pg_iload_n (pc := 1) hC dX5_offerNow_1 1 rfl rfl ?_
  refine pg_iload_n (pc := 2) hC dX5_offerNow_2 2 rfl rfl ?_
  refine pg_iload_n (pc := 3) hC dX5_offerNow_3 3 rfl rfl ?_
  refine pg_iload (pc := 4) hC dX5_offerNow_4 4 rfl ?_
  refine pg_callVRi (pc := 6) (As := [.int (nI p), .int (nI e), .int wt, .int mn]) (rest := []) hC dX5_offerNow_6 (cX5_reason_c l hok hS.1 hS.2.1 (p) (e) (by omega) (by omega) wt hw mn) (cwV 4 hC.2.2.2.2.1 gX5_offerNow_X5_reason rfl rfl rfl (by decide +kernel) ⟨Nat.le_of_ble_eq_true rfl, Nat.le_of_ble_eq_true rfl⟩) (ok_mem hok (by decide)) (ok_Mo hok) rfl rfl rfl rfl (Nat.le_of_ble_eq_true rfl) (Nat.zero_le _) (Nat.zero_le _) ?_
  refine pg_istore (pc := 9) (vs' := [(5, .int (sReason z (p) (e) wt mn)), (0, .ref (x 11 2)), (1, .int (nI p)), (2, .int (nI e)), (3, .int wt), (4, .int mn)]) hC dX5_offerNow_9 (by decide) rfl ?_
  refine pg_aload_n (pc := 11) hC dX5_offerNow_11 1 rfl rfl ?_
  refine pg_iload_n (pc := 12) hC dX5_offerNow_12 2 rfl rfl ?_
  refine pg_iconst (pc := 13) (v := 4) hC dX5_offerNow_13 (by decide) ?_
  refine pg_aload_n (pc := 14) hC dX5_offerNow_14 1 rfl rfl ?_
  refine pg_iload_n (pc := 15) hC dX5_offerNow_15 3 rfl rfl ?_
  refine pg_iconst (pc := 16) (v := 0) hC dX5_offerNow_16 (by decide) ?_
  refine pg_callVRi (pc := 17) (As := [.int (nI e), .int 0]) (rest := [.int 4, .int (nI p), .ref (x 11 2)]) hC dX5_offerNow_17 (cX5_ofExcuse_c l hok (e) (0) (by omega) (by omega)) (cwV 2 hC.2.2.2.2.1 gX5_offerNow_X5_ofExcuse rfl rfl rfl (by decide +kernel) ⟨Nat.le_of_ble_eq_true rfl, Nat.le_of_ble_eq_true rfl⟩) (ok_mem hok (by decide)) (ok_Mo hok) rfl rfl rfl rfl (Nat.le_of_ble_eq_true rfl) (Nat.zero_le _) (Nat.zero_le _) ?_
  refine pg_top (x' := z 2 e) (hS.1 2 e (show e < 12 by omega)) ?_
  refine pg_callVWv (pc := 20) (As := [.int (nI p), .int 4, .int (z 2 e)]) (rest := []) hC dX5_offerNow_20 (cX5_lay_c l hok (p) (4) (by omega) (by omega) (z 2 e)) (cwV 3 hC.2.2.2.2.1 gX5_offerNow_X5_lay rfl rfl rfl (by decide +kernel) ⟨Nat.le_of_ble_eq_true rfl, Nat.le_of_ble_eq_true rfl⟩) (ok_mem hok (by decide)) (ok_Mo hok) rfl rfl rfl rfl (Nat.le_of_ble_eq_true rfl) (Nat.zero_le _) (Nat.zero_le _) (fun f1 hokw1 => ?_)
  refine pg_iload (pc := 23) hC dX5_offerNow_23 0 rfl ?_
  refine pg_if_le (pc := 25) hC 102 dX5_offerNow_25 (by decide)  (fun c1 => ?_) (fun c1 => ?_)
  · skip
    have q0 := sReason_le c1
    refine pg_aload_n (pc := 102) hC dX5_offerNow_102 1 rfl rfl ?_
    refine pgM_geta (pc := 103) hC dX5_offerNow_103 0 (List.mem_of_getElem? (i := 1) rfl) miX5_offerNow_X5 hokw1 (by decide) ?_
    refine pg_bipush (pc := 106) (v := 6) hC dX5_offerNow_106 (by decide) ?_
    refine pg_dup2 (pc := 108) hC dX5_offerNow_108 rfl rfl ?_
    refine pgM_iald (pc := 109) (v := (zu g 0 (54 + 6 * p + 4) (z 2 e)) 0 6) hC dX5_offerNow_109 0 (6) hokw1 (by decide) (by decide) (by decide) rfl (show 6 < 234 by omega) rfl ?_
    refine pg_iconst (pc := 110) (v := 1) hC dX5_offerNow_110 (by decide) ?_
    refine pg_iadd (pc := 111) (v := ((zu g 0 (54 + 6 * p + 4) (z 2 e)) 0 6) + 1) hC dX5_offerNow_111 rfl ?_
    refine pgM_iast (pc := 112) hC dX5_offerNow_112 0 (6) hokw1 (by decide) rfl (show 6 < 234 by omega) (fun f2 hokw2 => ?_)
    refine pg_aload_n (pc := 113) hC dX5_offerNow_113 1 rfl rfl ?_
    refine pgM_geta (pc := 114) hC dX5_offerNow_114 0 (List.mem_of_getElem? (i := 1) rfl) miX5_offerNow_X5 hokw2 (by decide) ?_
    refine pg_bipush (pc := 117) (v := 12) hC dX5_offerNow_117 (by decide) ?_
    refine pg_dup2 (pc := 119) hC dX5_offerNow_119 rfl rfl ?_
    refine pgM_iald (pc := 120) (v := (zu (zu g 0 (54 + 6 * p + 4) (z 2 e)) 0 6 (((zu g 0 (54 + 6 * p + 4) (z 2 e)) 0 6) + 1)) 0 12) hC dX5_offerNow_120 0 (12) hokw2 (by decide) (by decide) (by decide) rfl (show 12 < 234 by omega) rfl ?_
    refine pg_iconst (pc := 121) (v := 1) hC dX5_offerNow_121 (by decide) ?_
    refine pg_iadd (pc := 122) (v := ((zu (zu g 0 (54 + 6 * p + 4) (z 2 e)) 0 6 (((zu g 0 (54 + 6 * p + 4) (z 2 e)) 0 6) + 1)) 0 12) + 1) hC dX5_offerNow_122 rfl ?_
    refine pgM_iast (pc := 123) hC dX5_offerNow_123 0 (12) hokw2 (by decide) rfl (show 12 < 234 by omega) (fun f3 hokw3 => ?_)
    refine pg_aload_n (pc := 124) hC dX5_offerNow_124 1 rfl rfl ?_
    refine pg_iload_n (pc := 125) hC dX5_offerNow_125 2 rfl rfl ?_
    refine pg_iconst (pc := 126) (v := 2) hC dX5_offerNow_126 (by decide) ?_
    refine pg_aload_n (pc := 127) hC dX5_offerNow_127 1 rfl rfl ?_
    refine pg_iload_n (pc := 128) hC dX5_offerNow_128 2 rfl rfl ?_
    refine pg_iconst (pc := 129) (v := 2) hC dX5_offerNow_129 (by decide) ?_
    refine pg_callVRi (pc := 130) (As := [.int (nI p), .int 2]) (rest := [.int 2, .int (nI p), .ref (x 11 2)]) hC dX5_offerNow_130 (cX5_of_c l hokw3 (p) (2) (by omega) (by omega)) (cwV 2 hC.2.2.2.2.1 gX5_offerNow_X5_of rfl rfl rfl (by decide +kernel) ⟨Nat.le_of_ble_eq_true rfl, Nat.le_of_ble_eq_true rfl⟩) (ok_mem hokw3 (by decide)) (ok_Mo hokw3) rfl rfl rfl rfl (Nat.le_of_ble_eq_true rfl) (Nat.zero_le _) (Nat.zero_le _) ?_
    refine pg_iconst (pc := 133) (v := 1) hC dX5_offerNow_133 (by decide) ?_
    refine pg_iadd (pc := 134) (v := ((zu (zu (zu g 0 (54 + 6 * p + 4) (z 2 e)) 0 6 (((zu g 0 (54 + 6 * p + 4) (z 2 e)) 0 6) + 1)) 0 12 (((zu (zu g 0 (54 + 6 * p + 4) (z 2 e)) 0 6 (((zu g 0 (54 + 6 * p + 4) (z 2 e)) 0 6) + 1)) 0 12) + 1)) 0 (54 + 6 * p + 2)) + 1) hC dX5_offerNow_134 rfl ?_
    refine pg_callVWv (pc := 135) (As := [.int (nI p), .int 2, .int (((zu (zu (zu g 0 (54 + 6 * p + 4) (z 2 e)) 0 6 (((zu g 0 (54 + 6 * p + 4) (z 2 e)) 0 6) + 1)) 0 12 (((zu (zu g 0 (54 + 6 * p + 4) (z 2 e)) 0 6 (((zu g 0 (54 + 6 * p + 4) (z 2 e)) 0 6) + 1)) 0 12) + 1)) 0 (54 + 6 * p + 2)) + 1)]) (rest := []) hC dX5_offerNow_135 (cX5_lay_c l hokw3 (p) (2) (by omega) (by omega) (((zu (zu (zu g 0 (54 + 6 * p + 4) (z 2 e)) 0 6 (((zu g 0 (54 + 6 * p + 4) (z 2 e)) 0 6) + 1)) 0 12 (((zu (zu g 0 (54 + 6 * p + 4) (z 2 e)) 0 6 (((zu g 0 (54 + 6 * p + 4) (z 2 e)) 0 6) + 1)) 0 12) + 1)) 0 (54 + 6 * p + 2)) + 1)) (cwV 3 hC.2.2.2.2.1 gX5_offerNow_X5_lay rfl rfl rfl (by decide +kernel) ⟨Nat.le_of_ble_eq_true rfl, Nat.le_of_ble_eq_true rfl⟩) (ok_mem hokw3 (by decide)) (ok_Mo hokw3) rfl rfl rfl rfl (Nat.le_of_ble_eq_true rfl) (Nat.zero_le _) (Nat.zero_le _) (fun f4 hokw4 => ?_)
    refine pg_aload_n (pc := 138) hC dX5_offerNow_138 1 rfl rfl ?_
    refine pgM_geta (pc := 139) hC dX5_offerNow_139 0 (List.mem_of_getElem? (i := 1) rfl) miX5_offerNow_X5 hokw4 (by decide) ?_
    refine pg_bipush (pc := 142) (v := 114) hC dX5_offerNow_142 (by decide) ?_
    refine pg_bipush (pc := 144) (v := 10) hC dX5_offerNow_144 (by decide) ?_
    refine pg_iload_n (pc := 146) hC dX5_offerNow_146 3 rfl rfl ?_
    refine pg_imul (pc := 147) (v := nI (10 * e)) hC dX5_offerNow_147 (pk_mul (10) (e)) ?_
    refine pg_iadd (pc := 148) (v := nI (114 + (10 * e))) hC dX5_offerNow_148 (nI_add (114) (10 * e)) ?_
    refine pg_iload_n (pc := 149) hC dX5_offerNow_149 2 rfl rfl ?_
    refine pg_iadd (pc := 150) (v := nI (114 + (10 * e) + p)) hC dX5_offerNow_150 (nI_add (114 + (10 * e)) (p)) ?_
    refine pg_dup2 (pc := 151) hC dX5_offerNow_151 rfl rfl ?_
    refine pgM_iald (pc := 152) (v := (zu (zu (zu (zu g 0 (54 + 6 * p + 4) (z 2 e)) 0 6 (((zu g 0 (54 + 6 * p + 4) (z 2 e)) 0 6) + 1)) 0 12 (((zu (zu g 0 (54 + 6 * p + 4) (z 2 e)) 0 6 (((zu g 0 (54 + 6 * p + 4) (z 2 e)) 0 6) + 1)) 0 12) + 1)) 0 (54 + 6 * p + 2) (((zu (zu (zu g 0 (54 + 6 * p + 4) (z 2 e)) 0 6 (((zu g 0 (54 + 6 * p + 4) (z 2 e)) 0 6) + 1)) 0 12 (((zu (zu g 0 (54 + 6 * p + 4) (z 2 e)) 0 6 (((zu g 0 (54 + 6 * p + 4) (z 2 e)) 0 6) + 1)) 0 12) + 1)) 0 (54 + 6 * p + 2)) + 1)) 0 (114 + (10 * e) + p)) hC dX5_offerNow_152 0 (114 + (10 * e) + p) hokw4 (by decide) (by decide) (by decide) rfl (show (114 + (10 * e) + p) < 234 by omega) rfl ?_
    refine pg_iconst (pc := 153) (v := 1) hC dX5_offerNow_153 (by decide) ?_
    refine pg_iadd (pc := 154) (v := ((zu (zu (zu (zu g 0 (54 + 6 * p + 4) (z 2 e)) 0 6 (((zu g 0 (54 + 6 * p + 4) (z 2 e)) 0 6) + 1)) 0 12 (((zu (zu g 0 (54 + 6 * p + 4) (z 2 e)) 0 6 (((zu g 0 (54 + 6 * p + 4) (z 2 e)) 0 6) + 1)) 0 12) + 1)) 0 (54 + 6 * p + 2) (((zu (zu (zu g 0 (54 + 6 * p + 4) (z 2 e)) 0 6 (((zu g 0 (54 + 6 * p + 4) (z 2 e)) 0 6) + 1)) 0 12 (((zu (zu g 0 (54 + 6 * p + 4) (z 2 e)) 0 6 (((zu g 0 (54 + 6 * p + 4) (z 2 e)) 0 6) + 1)) 0 12) + 1)) 0 (54 + 6 * p + 2)) + 1)) 0 (114 + (10 * e) + p)) + 1) hC dX5_offerNow_154 rfl ?_
    refine pgM_iast (pc := 155) hC dX5_offerNow_155 0 (114 + (10 * e) + p) hokw4 (by decide) rfl (show (114 + (10 * e) + p) < 234 by omega) (fun f5 hokw5 => ?_)
    refine pg_aload_n (pc := 156) hC dX5_offerNow_156 1 rfl rfl ?_
    refine pgM_geta (pc := 157) hC dX5_offerNow_157 0 (List.mem_of_getElem? (i := 1) rfl) miX5_offerNow_X5 hokw5 (by decide) ?_
    refine pg_bipush (pc := 160) (v := 18) hC dX5_offerNow_160 (by decide) ?_
    refine pg_iconst (pc := 162) (v := 3) hC dX5_offerNow_162 (by decide) ?_
    refine pg_iload_n (pc := 163) hC dX5_offerNow_163 3 rfl rfl ?_
    refine pg_imul (pc := 164) (v := nI (3 * e)) hC dX5_offerNow_164 (pk_mul (3) (e)) ?_
    refine pg_iadd (pc := 165) (v := nI (18 + (3 * e))) hC dX5_offerNow_165 (nI_add (18) (3 * e)) ?_
    refine pg_iconst (pc := 166) (v := 2) hC dX5_offerNow_166 (by decide) ?_
    refine pg_iadd (pc := 167) (v := nI (18 + (3 * e) + 2)) hC dX5_offerNow_167 (nI_add (18 + (3 * e)) (2)) ?_
    refine pg_dup2 (pc := 168) hC dX5_offerNow_168 rfl rfl ?_
    refine pgM_iald (pc := 169) (v := (zu (zu (zu (zu (zu g 0 (54 + 6 * p + 4) (z 2 e)) 0 6 (((zu g 0 (54 + 6 * p + 4) (z 2 e)) 0 6) + 1)) 0 12 (((zu (zu g 0 (54 + 6 * p + 4) (z 2 e)) 0 6 (((zu g 0 (54 + 6 * p + 4) (z 2 e)) 0 6) + 1)) 0 12) + 1)) 0 (54 + 6 * p + 2) (((zu (zu (zu g 0 (54 + 6 * p + 4) (z 2 e)) 0 6 (((zu g 0 (54 + 6 * p + 4) (z 2 e)) 0 6) + 1)) 0 12 (((zu (zu g 0 (54 + 6 * p + 4) (z 2 e)) 0 6 (((zu g 0 (54 + 6 * p + 4) (z 2 e)) 0 6) + 1)) 0 12) + 1)) 0 (54 + 6 * p + 2)) + 1)) 0 (114 + (10 * e) + p) (((zu (zu (zu (zu g 0 (54 + 6 * p + 4) (z 2 e)) 0 6 (((zu g 0 (54 + 6 * p + 4) (z 2 e)) 0 6) + 1)) 0 12 (((zu (zu g 0 (54 + 6 * p + 4) (z 2 e)) 0 6 (((zu g 0 (54 + 6 * p + 4) (z 2 e)) 0 6) + 1)) 0 12) + 1)) 0 (54 + 6 * p + 2) (((zu (zu (zu g 0 (54 + 6 * p + 4) (z 2 e)) 0 6 (((zu g 0 (54 + 6 * p + 4) (z 2 e)) 0 6) + 1)) 0 12 (((zu (zu g 0 (54 + 6 * p + 4) (z 2 e)) 0 6 (((zu g 0 (54 + 6 * p + 4) (z 2 e)) 0 6) + 1)) 0 12) + 1)) 0 (54 + 6 * p + 2)) + 1)) 0 (114 + (10 * e) + p)) + 1)) 0 (18 + (3 * e) + 2)) hC dX5_offerNow_169 0 (18 + (3 * e) + 2) hokw5 (by decide) (by decide) (by decide) rfl (show (18 + (3 * e) + 2) < 234 by omega) rfl ?_
    refine pg_iconst (pc := 170) (v := 1) hC dX5_offerNow_170 (by decide) ?_
    refine pg_iadd (pc := 171) (v := ((zu (zu (zu (zu (zu g 0 (54 + 6 * p + 4) (z 2 e)) 0 6 (((zu g 0 (54 + 6 * p + 4) (z 2 e)) 0 6) + 1)) 0 12 (((zu (zu g 0 (54 + 6 * p + 4) (z 2 e)) 0 6 (((zu g 0 (54 + 6 * p + 4) (z 2 e)) 0 6) + 1)) 0 12) + 1)) 0 (54 + 6 * p + 2) (((zu (zu (zu g 0 (54 + 6 * p + 4) (z 2 e)) 0 6 (((zu g 0 (54 + 6 * p + 4) (z 2 e)) 0 6) + 1)) 0 12 (((zu (zu g 0 (54 + 6 * p + 4) (z 2 e)) 0 6 (((zu g 0 (54 + 6 * p + 4) (z 2 e)) 0 6) + 1)) 0 12) + 1)) 0 (54 + 6 * p + 2)) + 1)) 0 (114 + (10 * e) + p) (((zu (zu (zu (zu g 0 (54 + 6 * p + 4) (z 2 e)) 0 6 (((zu g 0 (54 + 6 * p + 4) (z 2 e)) 0 6) + 1)) 0 12 (((zu (zu g 0 (54 + 6 * p + 4) (z 2 e)) 0 6 (((zu g 0 (54 + 6 * p + 4) (z 2 e)) 0 6) + 1)) 0 12) + 1)) 0 (54 + 6 * p + 2) (((zu (zu (zu g 0 (54 + 6 * p + 4) (z 2 e)) 0 6 (((zu g 0 (54 + 6 * p + 4) (z 2 e)) 0 6) + 1)) 0 12 (((zu (zu g 0 (54 + 6 * p + 4) (z 2 e)) 0 6 (((zu g 0 (54 + 6 * p + 4) (z 2 e)) 0 6) + 1)) 0 12) + 1)) 0 (54 + 6 * p + 2)) + 1)) 0 (114 + (10 * e) + p)) + 1)) 0 (18 + (3 * e) + 2)) + 1) hC dX5_offerNow_171 rfl ?_
    refine pgM_iast (pc := 172) hC dX5_offerNow_172 0 (18 + (3 * e) + 2) hokw5 (by decide) rfl (show (18 + (3 * e) + 2) < 234 by omega) (fun f6 hokw6 => ?_)
    refine pg_aload_n (pc := 173) hC dX5_offerNow_173 1 rfl rfl ?_
    refine pg_iload_n (pc := 174) hC dX5_offerNow_174 4 rfl rfl ?_
    refine pg_iconst (pc := 175) (v := 1) hC dX5_offerNow_175 (by decide) ?_
    refine pg_callVWv (pc := 176) (As := [.int wt, .int 1]) (rest := []) hC dX5_offerNow_176 (cX5_loses_c l hokw6 wt hw 1) (cwV 2 hC.2.2.2.2.1 gX5_offerNow_X5_loses rfl rfl rfl (by decide +kernel) ⟨Nat.le_of_ble_eq_true rfl, Nat.le_of_ble_eq_true rfl⟩) (ok_mem hokw6 (by decide)) (ok_Mo hokw6) rfl rfl rfl rfl (Nat.le_of_ble_eq_true rfl) (Nat.zero_le _) (Nat.zero_le _) (fun f7 hokw7 => ?_)
    refine pg_iload (pc := 179) hC dX5_offerNow_179 5 rfl ?_
    refine pg_bipush (pc := 181) (v := 30) hC dX5_offerNow_181 (by decide) ?_
    refine pg_icmp_le (pc := 183) hC 191 dX5_offerNow_183 (by decide)  (fun c2 => ?_) (fun c2 => ?_)
    · skip
      refine pg_iconst (pc := 191) (v := 0) hC dX5_offerNow_191 (by decide) ?_
      exact pg_iret (pc := 192) hC dX5_offerNow_192 rfl ⟨rfl, _, hokw7, q0.symm, ⟨_, rfl, (mS_stm hS hp he hw q0).1 c2, fun l hl => mStm0_o hl⟩⟩
    · skip
      refine pg_aload_n (pc := 186) hC dX5_offerNow_186 1 rfl rfl ?_
      refine pg_iload_n (pc := 187) hC dX5_offerNow_187 2 rfl rfl ?_
      refine pg_callVWv (pc := 188) (As := [.int (nI p)]) (rest := []) hC dX5_offerNow_188 (cX5_angers_c l hokw7 (p) (by omega)) (cwV 1 hC.2.2.2.2.1 gX5_offerNow_X5_angers rfl rfl rfl (by decide +kernel) ⟨Nat.le_of_ble_eq_true rfl, Nat.le_of_ble_eq_true rfl⟩) (ok_mem hokw7 (by decide)) (ok_Mo hokw7) rfl rfl rfl rfl (Nat.le_of_ble_eq_true rfl) (Nat.zero_le _) (Nat.zero_le _) (fun f8 hokw8 => ?_)
      refine pg_iconst (pc := 191) (v := 0) hC dX5_offerNow_191 (by decide) ?_
      exact pg_iret (pc := 192) hC dX5_offerNow_192 rfl ⟨rfl, _, hokw8, q0.symm, ⟨_, rfl, (mS_stm hS hp he hw q0).2 c2, fun l hl => (zu_o hl).trans (mStm0_o hl)⟩⟩
  · skip
    obtain ⟨r, hr1, hr4, hr⟩ := sReason_nat z p e wt mn (sReason_gt c1)
    refine pg_vs (vs' := [(5, .int (nI r)), (0, .ref (x 11 2)), (1, .int (nI p)), (2, .int (nI e)), (3, .int wt), (4, .int mn)]) (by rw [hr]) ?_
    refine pg_aload_n (pc := 28) hC dX5_offerNow_28 1 rfl rfl ?_
    refine pgM_geta (pc := 29) hC dX5_offerNow_29 0 (List.mem_of_getElem? (i := 1) rfl) miX5_offerNow_X5 hokw1 (by decide) ?_
    refine pg_bipush (pc := 32) (v := 6) hC dX5_offerNow_32 (by decide) ?_
    refine pg_iload (pc := 34) hC dX5_offerNow_34 0 rfl ?_
    refine pg_iadd (pc := 36) (v := nI (6 + r)) hC dX5_offerNow_36 (nI_add (6) (r)) ?_
    refine pg_dup2 (pc := 37) hC dX5_offerNow_37 rfl rfl ?_
    refine pgM_iald (pc := 38) (v := (zu g 0 (54 + 6 * p + 4) (z 2 e)) 0 (6 + r)) hC dX5_offerNow_38 0 (6 + r) hokw1 (by decide) (by decide) (by decide) rfl (show (6 + r) < 234 by omega) rfl ?_
    refine pg_iconst (pc := 39) (v := 1) hC dX5_offerNow_39 (by decide) ?_
    refine pg_iadd (pc := 40) (v := ((zu g 0 (54 + 6 * p + 4) (z 2 e)) 0 (6 + r)) + 1) hC dX5_offerNow_40 rfl ?_
    refine pgM_iast (pc := 41) hC dX5_offerNow_41 0 (6 + r) hokw1 (by decide) rfl (show (6 + r) < 234 by omega) (fun f9 hokw9 => ?_)
    refine pg_aload_n (pc := 42) hC dX5_offerNow_42 1 rfl rfl ?_
    refine pg_iload_n (pc := 43) hC dX5_offerNow_43 2 rfl rfl ?_
    refine pg_iconst (pc := 44) (v := 3) hC dX5_offerNow_44 (by decide) ?_
    refine pg_aload_n (pc := 45) hC dX5_offerNow_45 1 rfl rfl ?_
    refine pg_iload_n (pc := 46) hC dX5_offerNow_46 2 rfl rfl ?_
    refine pg_iconst (pc := 47) (v := 3) hC dX5_offerNow_47 (by decide) ?_
    refine pg_callVRi (pc := 48) (As := [.int (nI p), .int 3]) (rest := [.int 3, .int (nI p), .ref (x 11 2)]) hC dX5_offerNow_48 (cX5_of_c l hokw9 (p) (3) (by omega) (by omega)) (cwV 2 hC.2.2.2.2.1 gX5_offerNow_X5_of rfl rfl rfl (by decide +kernel) ⟨Nat.le_of_ble_eq_true rfl, Nat.le_of_ble_eq_true rfl⟩) (ok_mem hokw9 (by decide)) (ok_Mo hokw9) rfl rfl rfl rfl (Nat.le_of_ble_eq_true rfl) (Nat.zero_le _) (Nat.zero_le _) ?_
    refine pg_iconst (pc := 51) (v := 1) hC dX5_offerNow_51 (by decide) ?_
    refine pg_iadd (pc := 52) (v := ((zu (zu g 0 (54 + 6 * p + 4) (z 2 e)) 0 (6 + r) (((zu g 0 (54 + 6 * p + 4) (z 2 e)) 0 (6 + r)) + 1)) 0 (54 + 6 * p + 3)) + 1) hC dX5_offerNow_52 rfl ?_
    refine pg_callVWv (pc := 53) (As := [.int (nI p), .int 3, .int (((zu (zu g 0 (54 + 6 * p + 4) (z 2 e)) 0 (6 + r) (((zu g 0 (54 + 6 * p + 4) (z 2 e)) 0 (6 + r)) + 1)) 0 (54 + 6 * p + 3)) + 1)]) (rest := []) hC dX5_offerNow_53 (cX5_lay_c l hokw9 (p) (3) (by omega) (by omega) (((zu (zu g 0 (54 + 6 * p + 4) (z 2 e)) 0 (6 + r) (((zu g 0 (54 + 6 * p + 4) (z 2 e)) 0 (6 + r)) + 1)) 0 (54 + 6 * p + 3)) + 1)) (cwV 3 hC.2.2.2.2.1 gX5_offerNow_X5_lay rfl rfl rfl (by decide +kernel) ⟨Nat.le_of_ble_eq_true rfl, Nat.le_of_ble_eq_true rfl⟩) (ok_mem hokw9 (by decide)) (ok_Mo hokw9) rfl rfl rfl rfl (Nat.le_of_ble_eq_true rfl) (Nat.zero_le _) (Nat.zero_le _) (fun f10 hokw10 => ?_)
    refine pg_aload_n (pc := 56) hC dX5_offerNow_56 1 rfl rfl ?_
    refine pg_iload_n (pc := 57) hC dX5_offerNow_57 2 rfl rfl ?_
    refine pg_iconst (pc := 58) (v := 1) hC dX5_offerNow_58 (by decide) ?_
    refine pg_aload_n (pc := 59) hC dX5_offerNow_59 1 rfl rfl ?_
    refine pg_iload_n (pc := 60) hC dX5_offerNow_60 2 rfl rfl ?_
    refine pg_iconst (pc := 61) (v := 1) hC dX5_offerNow_61 (by decide) ?_
    refine pg_callVRi (pc := 62) (As := [.int (nI p), .int 1]) (rest := [.int 1, .int (nI p), .ref (x 11 2)]) hC dX5_offerNow_62 (cX5_of_c l hokw10 (p) (1) (by omega) (by omega)) (cwV 2 hC.2.2.2.2.1 gX5_offerNow_X5_of rfl rfl rfl (by decide +kernel) ⟨Nat.le_of_ble_eq_true rfl, Nat.le_of_ble_eq_true rfl⟩) (ok_mem hokw10 (by decide)) (ok_Mo hokw10) rfl rfl rfl rfl (Nat.le_of_ble_eq_true rfl) (Nat.zero_le _) (Nat.zero_le _) ?_
    refine pg_aload_n (pc := 65) hC dX5_offerNow_65 1 rfl rfl ?_
    refine pgM_geta (pc := 66) hC dX5_offerNow_66 0 (List.mem_of_getElem? (i := 1) rfl) miX5_offerNow_X5 hokw10 (by decide) ?_
    refine pg_iconst (pc := 69) (v := 3) hC dX5_offerNow_69 (by decide) ?_
    refine pgM_iald (pc := 70) (v := (zu (zu (zu g 0 (54 + 6 * p + 4) (z 2 e)) 0 (6 + r) (((zu g 0 (54 + 6 * p + 4) (z 2 e)) 0 (6 + r)) + 1)) 0 (54 + 6 * p + 3) (((zu (zu g 0 (54 + 6 * p + 4) (z 2 e)) 0 (6 + r) (((zu g 0 (54 + 6 * p + 4) (z 2 e)) 0 (6 + r)) + 1)) 0 (54 + 6 * p + 3)) + 1)) 0 3) hC dX5_offerNow_70 0 (3) hokw10 (by decide) (by decide) (by decide) rfl (show 3 < 234 by omega) rfl ?_
    refine pg_iload (pc := 71) hC dX5_offerNow_71 5 rfl ?_
    refine pg_imul (pc := 73) (v := ((zu (zu (zu g 0 (54 + 6 * p + 4) (z 2 e)) 0 (6 + r) (((zu g 0 (54 + 6 * p + 4) (z 2 e)) 0 (6 + r)) + 1)) 0 (54 + 6 * p + 3) (((zu (zu g 0 (54 + 6 * p + 4) (z 2 e)) 0 (6 + r) (((zu g 0 (54 + 6 * p + 4) (z 2 e)) 0 (6 + r)) + 1)) 0 (54 + 6 * p + 3)) + 1)) 0 3) * mn) hC dX5_offerNow_73 rfl ?_
    refine pg_iadd (pc := 74) (v := ((zu (zu (zu g 0 (54 + 6 * p + 4) (z 2 e)) 0 (6 + r) (((zu g 0 (54 + 6 * p + 4) (z 2 e)) 0 (6 + r)) + 1)) 0 (54 + 6 * p + 3) (((zu (zu g 0 (54 + 6 * p + 4) (z 2 e)) 0 (6 + r) (((zu g 0 (54 + 6 * p + 4) (z 2 e)) 0 (6 + r)) + 1)) 0 (54 + 6 * p + 3)) + 1)) 0 (54 + 6 * p + 1)) + (((zu (zu (zu g 0 (54 + 6 * p + 4) (z 2 e)) 0 (6 + r) (((zu g 0 (54 + 6 * p + 4) (z 2 e)) 0 (6 + r)) + 1)) 0 (54 + 6 * p + 3) (((zu (zu g 0 (54 + 6 * p + 4) (z 2 e)) 0 (6 + r) (((zu g 0 (54 + 6 * p + 4) (z 2 e)) 0 (6 + r)) + 1)) 0 (54 + 6 * p + 3)) + 1)) 0 3) * mn)) hC dX5_offerNow_74 rfl ?_
    refine pg_callVWv (pc := 75) (As := [.int (nI p), .int 1, .int (((zu (zu (zu g 0 (54 + 6 * p + 4) (z 2 e)) 0 (6 + r) (((zu g 0 (54 + 6 * p + 4) (z 2 e)) 0 (6 + r)) + 1)) 0 (54 + 6 * p + 3) (((zu (zu g 0 (54 + 6 * p + 4) (z 2 e)) 0 (6 + r) (((zu g 0 (54 + 6 * p + 4) (z 2 e)) 0 (6 + r)) + 1)) 0 (54 + 6 * p + 3)) + 1)) 0 (54 + 6 * p + 1)) + (((zu (zu (zu g 0 (54 + 6 * p + 4) (z 2 e)) 0 (6 + r) (((zu g 0 (54 + 6 * p + 4) (z 2 e)) 0 (6 + r)) + 1)) 0 (54 + 6 * p + 3) (((zu (zu g 0 (54 + 6 * p + 4) (z 2 e)) 0 (6 + r) (((zu g 0 (54 + 6 * p + 4) (z 2 e)) 0 (6 + r)) + 1)) 0 (54 + 6 * p + 3)) + 1)) 0 3) * mn))]) (rest := []) hC dX5_offerNow_75 (cX5_lay_c l hokw10 (p) (1) (by omega) (by omega) (((zu (zu (zu g 0 (54 + 6 * p + 4) (z 2 e)) 0 (6 + r) (((zu g 0 (54 + 6 * p + 4) (z 2 e)) 0 (6 + r)) + 1)) 0 (54 + 6 * p + 3) (((zu (zu g 0 (54 + 6 * p + 4) (z 2 e)) 0 (6 + r) (((zu g 0 (54 + 6 * p + 4) (z 2 e)) 0 (6 + r)) + 1)) 0 (54 + 6 * p + 3)) + 1)) 0 (54 + 6 * p + 1)) + (((zu (zu (zu g 0 (54 + 6 * p + 4) (z 2 e)) 0 (6 + r) (((zu g 0 (54 + 6 * p + 4) (z 2 e)) 0 (6 + r)) + 1)) 0 (54 + 6 * p + 3) (((zu (zu g 0 (54 + 6 * p + 4) (z 2 e)) 0 (6 + r) (((zu g 0 (54 + 6 * p + 4) (z 2 e)) 0 (6 + r)) + 1)) 0 (54 + 6 * p + 3)) + 1)) 0 3) * mn))) (cwV 3 hC.2.2.2.2.1 gX5_offerNow_X5_lay rfl rfl rfl (by decide +kernel) ⟨Nat.le_of_ble_eq_true rfl, Nat.le_of_ble_eq_true rfl⟩) (ok_mem hokw10 (by decide)) (ok_Mo hokw10) rfl rfl rfl rfl (Nat.le_of_ble_eq_true rfl) (Nat.zero_le _) (Nat.zero_le _) (fun f11 hokw11 => ?_)
    refine pg_aload_n (pc := 78) hC dX5_offerNow_78 1 rfl rfl ?_
    refine pg_iload_n (pc := 79) hC dX5_offerNow_79 2 rfl rfl ?_
    refine pg_callVWv (pc := 80) (As := [.int (nI p)]) (rest := []) hC dX5_offerNow_80 (cX5_angers_c l hokw11 (p) (by omega)) (cwV 1 hC.2.2.2.2.1 gX5_offerNow_X5_angers rfl rfl rfl (by decide +kernel) ⟨Nat.le_of_ble_eq_true rfl, Nat.le_of_ble_eq_true rfl⟩) (ok_mem hokw11 (by decide)) (ok_Mo hokw11) rfl rfl rfl rfl (Nat.le_of_ble_eq_true rfl) (Nat.zero_le _) (Nat.zero_le _) (fun f12 hokw12 => ?_)
    refine pg_aload_n (pc := 83) hC dX5_offerNow_83 1 rfl rfl ?_
    refine pg_iload_n (pc := 84) hC dX5_offerNow_84 4 rfl rfl ?_
    refine pg_iload (pc := 85) hC dX5_offerNow_85 0 rfl ?_
    refine pg_iconst (pc := 87) (v := 4) hC dX5_offerNow_87 (by decide) ?_
    refine pg_icmp_neN (pc := 88) hC 95 dX5_offerNow_88 (by decide) (r) (4) rfl rfl (by omega) (by omega) (fun c3 => ?_) (fun c3 => ?_)
    · skip
      refine pg_iconst (pc := 95) (v := 0) hC dX5_offerNow_95 (by decide) ?_
      refine pg_callVWv (pc := 96) (As := [.int wt, .int 0]) (rest := []) hC dX5_offerNow_96 (cX5_loses_c l hokw12 wt hw 0) (cwV 2 hC.2.2.2.2.1 gX5_offerNow_X5_loses rfl rfl rfl (by decide +kernel) ⟨Nat.le_of_ble_eq_true rfl, Nat.le_of_ble_eq_true rfl⟩) (ok_mem hokw12 (by decide)) (ok_Mo hokw12) rfl rfl rfl rfl (Nat.le_of_ble_eq_true rfl) (Nat.zero_le _) (Nat.zero_le _) (fun f13 hokw13 => ?_)
      refine pg_iload (pc := 99) hC dX5_offerNow_99 0 rfl ?_
      exact pg_iret (pc := 101) hC dX5_offerNow_101 rfl ⟨rfl, _, hokw13, hr.symm, ⟨_, rfl, mS_ref (e := e) (mn := mn) (c := 0) hS hp hw hr1 hr4 hr (by rw [if_neg c3]), fun l hl => (mLos_o hl).trans (mRef2_o hl)⟩⟩
    · skip
      refine pg_iconst (pc := 91) (v := 2) hC dX5_offerNow_91 (by decide) ?_
      refine pg_goto (pc := 92) hC 96 dX5_offerNow_92 (by decide) ?_
      refine pg_callVWv (pc := 96) (As := [.int wt, .int 2]) (rest := []) hC dX5_offerNow_96 (cX5_loses_c l hokw12 wt hw 2) (cwV 2 hC.2.2.2.2.1 gX5_offerNow_X5_loses rfl rfl rfl (by decide +kernel) ⟨Nat.le_of_ble_eq_true rfl, Nat.le_of_ble_eq_true rfl⟩) (ok_mem hokw12 (by decide)) (ok_Mo hokw12) rfl rfl rfl rfl (Nat.le_of_ble_eq_true rfl) (Nat.zero_le _) (Nat.zero_le _) (fun f14 hokw14 => ?_)
      refine pg_iload (pc := 99) hC dX5_offerNow_99 0 rfl ?_
      exact pg_iret (pc := 101) hC dX5_offerNow_101 rfl ⟨rfl, _, hokw14, hr.symm, ⟨_, rfl, mS_ref (e := e) (mn := mn) (c := 2) hS hp hw hr1 hr4 hr (by rw [if_pos c3]), fun l hl => (mLos_o hl).trans (mRef2_o hl)⟩⟩
