abbrev rmX5_set : Room := { frames := 2, cells := 0, slots := 0, locals := 45 }
theorem miX5_set_X5 : ∀ w ∈ wsX50, w ∈ wsX5_set := fun _ h => List.mem_cons_of_mem _ (List.mem_append_right _ h)
set_option maxHeartbeats 2000000 in
set_option maxRecDepth 20000 in
theorem cX5_set_c (l : Launch) {κ : pv_Kt} {L : List Nat} {f : Nat → va_E} {x : Nat → Nat → Nat} {Z : Nat → Nat → Nat → Int32} {g : Nat → Nat → Int32} (hok : pv_ok κ x L f (va_up Z 11 g)) {z : Nat → Nat → Int32} {n : Nat} (hS : mS z n (g 0)) (sn : Nat) (hsn : g 2 0 = nI sn) (hsn6 : sn ≤ 6) (st v : Int32) : pv_Mi l κ yX5_set wsX5_set rmX5_set L f [.ref (x 11 2), .int st, .int v] 0 0 (pv_Ei κ x L (mE Z (tSet z st v) (mChg (¬ mVal st v = 0) g sn (zu z 0 (cl st) v) (n)))) := by
  refine pv_startI (cc := cX5_set) (maxL := 4) (ret := (some .int)) (by decide) rfl (Nat.le_of_ble_eq_true rfl) (fun A0 P0 E0 S0 M0 a0 B0 T0 C0 hC => ?_)
  refine pg_sub (vs' := [(0, .ref (x 11 2)), (1, .int st), (2, .int v)]) [0, 1, 2] rfl ?_
  have hn12 := hS.2.1.n12
  refine pg_iload_n (pc := 0) hC dX5_set_0 1 rfl rfl ?_
  refine pg_iload_n (pc := 1) hC dX5_set_1 2 rfl rfl ?_
  refine pg_callSRi (pc := 2) (As := [.int st, .int v]) (rest := []) hC dX5_set_2 (cX5_isValue_c l st v) (va_cwS 2 hC.2.2.2.2.1 gX5_set_X5_isValue rfl rfl rfl (by decide +kernel) ⟨Nat.le_of_ble_eq_true rfl, Nat.le_of_ble_eq_true rfl⟩) rfl rfl (Nat.le_of_ble_eq_true rfl) (Nat.zero_le _) (Nat.zero_le _) ?_
  refine pg_if_ne (pc := 5) hC 11 dX5_set_5 (by decide)  (fun c1 => ?_) (fun c1 => ?_)
  · skip
    obtain ⟨k, hk4, rfl, hv, hst⟩ := mVal_pos c1
    have clk : cl (nI k) = k := cl_nI (by omega)
    refine pg_aload_n (pc := 11) hC dX5_set_11 0 rfl rfl ?_
    refine pg_callVWv (pc := 12) (As := []) (rest := []) hC dX5_set_12 (cX5_record_c l hok sn hsn hsn6) (cwV 0 hC.2.2.2.2.1 gX5_set_X5_record rfl rfl rfl (by decide +kernel) ⟨Nat.le_of_ble_eq_true rfl, Nat.le_of_ble_eq_true rfl⟩) (ok_mem hok (by decide)) (ok_Mo hok) rfl rfl rfl rfl (Nat.le_of_ble_eq_true rfl) (Nat.zero_le _) (Nat.zero_le _) (fun f1 hokw1 => ?_)
    have hS1 : mS z n (mRec g sn 0) := by rw [mRec_0]; exact hS
    refine pg_aload_n (pc := 15) hC dX5_set_15 0 rfl rfl ?_
    refine pgM_geta (pc := 16) hC dX5_set_16 0 (List.mem_of_getElem? (i := 1) rfl) miX5_set_X5 hokw1 (by decide) ?_
    refine pg_iload_n (pc := 19) hC dX5_set_19 1 rfl rfl ?_
    refine pgM_iald (pc := 20) (v := z 0 k) hC dX5_set_20 0 (k) hokw1 (by decide) (by decide) (by decide) rfl (show k < 234 by omega) (hS1.1 0 k (show k < 5 by omega)) ?_
    refine pg_istore_n (pc := 21) (vs' := [(3, .int (z 0 k)), (0, .ref (x 11 2)), (1, .int (nI k)), (2, .int v)]) hC dX5_set_21 rfl (by decide) rfl ?_
    refine pg_aload_n (pc := 22) hC dX5_set_22 1 rfl rfl ?_
    refine pgM_geta (pc := 23) hC dX5_set_23 0 (List.mem_of_getElem? (i := 1) rfl) miX5_set_X5 hokw1 (by decide) ?_
    refine pg_iload_n (pc := 26) hC dX5_set_26 2 rfl rfl ?_
    refine pg_iload_n (pc := 27) hC dX5_set_27 3 rfl rfl ?_
    refine pgM_iast (pc := 28) hC dX5_set_28 0 (k) hokw1 (by decide) rfl (show k < 234 by omega) (fun f2 hokw2 => ?_)
    refine pg_iload_n (pc := 29) hC dX5_set_29 0 rfl rfl ?_
    exact pg_iret (pc := 30) hC dX5_set_30 rfl ⟨rfl, _, hokw2, (by unfold tSet; rw [if_neg hst, clk, if_neg hv]), ⟨_, rfl, Or.inr ⟨c1, by rw [clk, zu_e]; exact mS_set hS1 hk4 hv, fun l hl => zu_o hl⟩⟩⟩
  · skip
    refine pg_bipush (pc := 8) (v := (-2)) hC dX5_set_8 (by decide) ?_
    exact pg_iret (pc := 10) hC dX5_set_10 rfl ⟨rfl, _, hok, (by rw [mVal_0 c1]), ⟨_, rfl, Or.inl ⟨fun q => q c1, rfl⟩⟩⟩
abbrev rmX5_add : Room := { frames := 2, cells := 0, slots := 0, locals := 45 }
theorem miX5_add_X5 : ∀ w ∈ wsX50, w ∈ wsX5_add := fun _ h => List.mem_cons_of_mem _ (List.mem_append_right _ h)
set_option maxHeartbeats 2000000 in
set_option maxRecDepth 20000 in
theorem cX5_add_c (l : Launch) {κ : pv_Kt} {L : List Nat} {f : Nat → va_E} {x : Nat → Nat → Nat} {Z : Nat → Nat → Nat → Int32} {g : Nat → Nat → Int32} (hok : pv_ok κ x L f (va_up Z 11 g)) {z : Nat → Nat → Int32} {n : Nat} (hS : mS z n (g 0)) (sn : Nat) (hsn : g 2 0 = nI sn) (hsn6 : sn ≤ 6) (kd wh : Int32) : pv_Mi l κ yX5_add wsX5_add rmX5_add L f [.ref (x 11 2), .int kd, .int wh] 0 0 (pv_Ei κ x L (mE Z (tAdd n kd wh) (mChg (¬ bW kd 0 4 = 0 ∧ ¬ bW wh 1 99 = 0 ∧ n < 12) g sn (sAdd z n kd wh) (n + 1)))) := by
  refine pv_startI (cc := cX5_add) (maxL := 4) (ret := (some .int)) (by decide) rfl (Nat.le_of_ble_eq_true rfl) (fun A0 P0 E0 S0 M0 a0 B0 T0 C0 hC => ?_)
  refine pg_sub (vs' := [(0, .ref (x 11 2)), (1, .int kd), (2, .int wh)]) [0, 1, 2] rfl ?_
  have hn12 := hS.2.1.n12
  refine pg_iload_n (pc := 0) hC dX5_add_0 1 rfl rfl ?_
  refine pg_iconst (pc := 1) (v := 0) hC dX5_add_1 (by decide) ?_
  refine pg_iconst (pc := 2) (v := 4) hC dX5_add_2 (by decide) ?_
  refine pg_callSRi (pc := 3) (As := [.int kd, .int 0, .int 4]) (rest := []) hC dX5_add_3 (cX5_in_c l kd 0 4) (va_cwS 3 hC.2.2.2.2.1 gX5_add_X5_in rfl rfl rfl (by decide +kernel) ⟨Nat.le_of_ble_eq_true rfl, Nat.le_of_ble_eq_true rfl⟩) rfl rfl (Nat.le_of_ble_eq_true rfl) (Nat.zero_le _) (Nat.zero_le _) ?_
  refine pg_if_eq (pc := 6) hC 19 dX5_add_6 (by decide)  (fun c1 => ?_) (fun c1 => ?_)
  · skip
    refine pg_bipush (pc := 19) (v := (-2)) hC dX5_add_19 (by decide) ?_
    exact pg_iret (pc := 21) hC dX5_add_21 rfl ⟨rfl, _, hok, (by simp [tAdd, c1]), ⟨_, rfl, Or.inl ⟨fun q => q.1 c1, rfl⟩⟩⟩
  · skip
    refine pg_iload_n (pc := 9) hC dX5_add_9 2 rfl rfl ?_
    refine pg_iconst (pc := 10) (v := 1) hC dX5_add_10 (by decide) ?_
    refine pg_bipush (pc := 11) (v := 99) hC dX5_add_11 (by decide) ?_
    refine pg_callSRi (pc := 13) (As := [.int wh, .int 1, .int 99]) (rest := []) hC dX5_add_13 (cX5_in_c l wh 1 99) (va_cwS 3 hC.2.2.2.2.1 gX5_add_X5_in rfl rfl rfl (by decide +kernel) ⟨Nat.le_of_ble_eq_true rfl, Nat.le_of_ble_eq_true rfl⟩) rfl rfl (Nat.le_of_ble_eq_true rfl) (Nat.zero_le _) (Nat.zero_le _) ?_
    refine pg_if_ne (pc := 16) hC 22 dX5_add_16 (by decide)  (fun c2 => ?_) (fun c2 => ?_)
    · skip
      refine pg_aload_n (pc := 22) hC dX5_add_22 0 rfl rfl ?_
      refine pgM_geta (pc := 23) hC dX5_add_23 0 (List.mem_of_getElem? (i := 1) rfl) miX5_add_X5 hok (by decide) ?_
      refine pg_iconst (pc := 26) (v := 5) hC dX5_add_26 (by decide) ?_
      refine pgM_iald (pc := 27) (v := nI n) hC dX5_add_27 0 (5) hok (by decide) (by decide) (by decide) rfl (show 5 < 234 by omega) ((hS.1 1 0 rfl).trans hS.2.1.n) ?_
      refine pg_bipush (pc := 28) (v := 12) hC dX5_add_28 (by decide) ?_
      refine pg_icmp_neN (pc := 30) hC 36 dX5_add_30 (by decide) (n) (12) rfl rfl (by omega) (by omega) (fun c3 => ?_) (fun c3 => ?_)
      · skip
        refine pg_aload_n (pc := 36) hC dX5_add_36 0 rfl rfl ?_
        refine pg_callVWv (pc := 37) (As := []) (rest := []) hC dX5_add_37 (cX5_record_c l hok sn hsn hsn6) (cwV 0 hC.2.2.2.2.1 gX5_add_X5_record rfl rfl rfl (by decide +kernel) ⟨Nat.le_of_ble_eq_true rfl, Nat.le_of_ble_eq_true rfl⟩) (ok_mem hok (by decide)) (ok_Mo hok) rfl rfl rfl rfl (Nat.le_of_ble_eq_true rfl) (Nat.zero_le _) (Nat.zero_le _) (fun f1 hokw1 => ?_)
        have hS1 : mS z n (mRec g sn 0) := by rw [mRec_0]; exact hS
        refine pg_bipush (pc := 40) (v := 18) hC dX5_add_40 (by decide) ?_
        refine pg_iconst (pc := 42) (v := 3) hC dX5_add_42 (by decide) ?_
        refine pg_aload_n (pc := 43) hC dX5_add_43 0 rfl rfl ?_
        refine pgM_geta (pc := 44) hC dX5_add_44 0 (List.mem_of_getElem? (i := 1) rfl) miX5_add_X5 hokw1 (by decide) ?_
        refine pg_iconst (pc := 47) (v := 5) hC dX5_add_47 (by decide) ?_
        refine pgM_iald (pc := 48) (v := nI n) hC dX5_add_48 0 (5) hokw1 (by decide) (by decide) (by decide) rfl (show 5 < 234 by omega) ((hS1.1 1 0 rfl).trans hS1.2.1.n) ?_
        refine pg_imul (pc := 49) (v := nI (3 * n)) hC dX5_add_49 (pk_mul (3) (n)) ?_
        refine pg_iadd (pc := 50) (v := nI (18 + (3 * n))) hC dX5_add_50 (nI_add (18) (3 * n)) ?_
        refine pg_istore_n (pc := 51) (vs' := [(3, .int (nI (18 + (3 * n)))), (0, .ref (x 11 2)), (1, .int kd), (2, .int wh)]) hC dX5_add_51 rfl (by decide) rfl ?_
        refine pg_aload_n (pc := 52) hC dX5_add_52 1 rfl rfl ?_
        refine pgM_geta (pc := 53) hC dX5_add_53 0 (List.mem_of_getElem? (i := 1) rfl) miX5_add_X5 hokw1 (by decide) ?_
        refine pg_iload_n (pc := 56) hC dX5_add_56 0 rfl rfl ?_
        refine pg_iconst (pc := 57) (v := 0) hC dX5_add_57 (by decide) ?_
        refine pg_iadd (pc := 58) (v := nI (18 + (3 * n) + 0)) hC dX5_add_58 (nI_add (18 + (3 * n)) (0)) ?_
        refine pg_iload_n (pc := 59) hC dX5_add_59 2 rfl rfl ?_
        refine pgM_iast (pc := 60) hC dX5_add_60 0 (18 + (3 * n) + 0) hokw1 (by decide) rfl (show (18 + (3 * n) + 0) < 234 by omega) (fun f2 hokw2 => ?_)
        refine pg_aload_n (pc := 61) hC dX5_add_61 1 rfl rfl ?_
        refine pgM_geta (pc := 62) hC dX5_add_62 0 (List.mem_of_getElem? (i := 1) rfl) miX5_add_X5 hokw2 (by decide) ?_
        refine pg_iload_n (pc := 65) hC dX5_add_65 0 rfl rfl ?_
        refine pg_iconst (pc := 66) (v := 1) hC dX5_add_66 (by decide) ?_
        refine pg_iadd (pc := 67) (v := nI (18 + (3 * n) + 1)) hC dX5_add_67 (nI_add (18 + (3 * n)) (1)) ?_
        refine pg_iload_n (pc := 68) hC dX5_add_68 3 rfl rfl ?_
        refine pgM_iast (pc := 69) hC dX5_add_69 0 (18 + (3 * n) + 1) hokw2 (by decide) rfl (show (18 + (3 * n) + 1) < 234 by omega) (fun f3 hokw3 => ?_)
        refine pg_aload_n (pc := 70) hC dX5_add_70 1 rfl rfl ?_
        refine pgM_geta (pc := 71) hC dX5_add_71 0 (List.mem_of_getElem? (i := 1) rfl) miX5_add_X5 hokw3 (by decide) ?_
        refine pg_iload_n (pc := 74) hC dX5_add_74 0 rfl rfl ?_
        refine pg_iconst (pc := 75) (v := 2) hC dX5_add_75 (by decide) ?_
        refine pg_iadd (pc := 76) (v := nI (18 + (3 * n) + 2)) hC dX5_add_76 (nI_add (18 + (3 * n)) (2)) ?_
        refine pg_iconst (pc := 77) (v := 0) hC dX5_add_77 (by decide) ?_
        refine pgM_iast (pc := 78) hC dX5_add_78 0 (18 + (3 * n) + 2) hokw3 (by decide) rfl (show (18 + (3 * n) + 2) < 234 by omega) (fun f4 hokw4 => ?_)
        refine pg_aload_n (pc := 79) hC dX5_add_79 1 rfl rfl ?_
        refine pgM_geta (pc := 80) hC dX5_add_80 0 (List.mem_of_getElem? (i := 1) rfl) miX5_add_X5 hokw4 (by decide) ?_
        refine pg_iconst (pc := 83) (v := 5) hC dX5_add_83 (by decide) ?_
        refine pg_dup2 (pc := 84) hC dX5_add_84 rfl rfl ?_
        refine pgM_iald (pc := 85) (v := nI n) hC dX5_add_85 0 (5) hokw4 (by decide) (by decide) (by decide) rfl (show 5 < 234 by omega) (by rw [zu_en (show 5 ≠ 18 + 3 * n + 2 by omega), zu_en (show 5 ≠ 18 + 3 * n + 1 by omega), zu_en (show 5 ≠ 18 + 3 * n + 0 by omega)]; exact (hS1.1 1 0 rfl).trans hS1.2.1.n) ?_
        refine pg_iconst (pc := 86) (v := 1) hC dX5_add_86 (by decide) ?_
        refine pg_iadd (pc := 87) (v := nI (n + 1)) hC dX5_add_87 (nI_add (n) (1)) ?_
        refine pgM_iast (pc := 88) hC dX5_add_88 0 (5) hokw4 (by decide) rfl (show 5 < 234 by omega) (fun f5 hokw5 => ?_)
        refine pg_aload_n (pc := 89) hC dX5_add_89 1 rfl rfl ?_
        refine pgM_geta (pc := 90) hC dX5_add_90 0 (List.mem_of_getElem? (i := 1) rfl) miX5_add_X5 hokw5 (by decide) ?_
        refine pg_iconst (pc := 93) (v := 5) hC dX5_add_93 (by decide) ?_
        refine pgM_iald (pc := 94) (v := nI (n + 1)) hC dX5_add_94 0 (5) hokw5 (by decide) (by decide) (by decide) rfl (show 5 < 234 by omega) (by simp [zu, zc, va_up]) ?_
        refine pg_iconst (pc := 95) (v := 1) hC dX5_add_95 (by decide) ?_
        refine pg_isub (pc := 96) (v := nI ((n + 1) - 1)) hC dX5_add_96 (pk_sub (a := n + 1) (b := 1) (by omega)) ?_
        exact pg_iret (pc := 97) hC dX5_add_97 rfl ⟨rfl, _, hokw5, (by simp [tAdd, c1, c2, (show n < 12 by omega)]), ⟨_, rfl, Or.inr ⟨⟨c1, c2, by omega⟩, by rw [zu_e, zu_e, zu_e, zu_e]; rw [← nI_1 n]; exact mS_add hS1 (by omega) c2, fun l hl => by rw [zu_o hl, zu_o hl, zu_o hl, zu_o hl]⟩⟩⟩
      · skip
        refine pg_bipush (pc := 33) (v := (-4)) hC dX5_add_33 (by decide) ?_
        exact pg_iret (pc := 35) hC dX5_add_35 rfl ⟨rfl, _, hok, (by simp [tAdd, c1, c2, (show ¬ n < 12 by omega)]), ⟨_, rfl, Or.inl ⟨fun q => absurd q.2.2 (by omega), rfl⟩⟩⟩
    · skip
      refine pg_bipush (pc := 19) (v := (-2)) hC dX5_add_19 (by decide) ?_
      exact pg_iret (pc := 21) hC dX5_add_21 rfl ⟨rfl, _, hok, (by simp [tAdd, c1, c2]), ⟨_, rfl, Or.inl ⟨fun q => q.2.1 c2, rfl⟩⟩⟩
abbrev rmX5_worth : Room := { frames := 2, cells := 0, slots := 0, locals := 45 }
theorem miX5_worth_X5 : ∀ w ∈ wsX50, w ∈ wsX5_worth := fun _ h => List.mem_cons_of_mem _ (List.mem_append_right _ h)
set_option maxHeartbeats 2000000 in
set_option maxRecDepth 20000 in
theorem cX5_worth_c (l : Launch) {κ : pv_Kt} {L : List Nat} {f : Nat → va_E} {x : Nat → Nat → Nat} {Z : Nat → Nat → Nat → Int32} {g : Nat → Nat → Int32} (hok : pv_ok κ x L f (va_up Z 11 g)) {z : Nat → Nat → Int32} {n : Nat} (hS : mS z n (g 0)) (sn : Nat) (hsn : g 2 0 = nI sn) (hsn6 : sn ≤ 6) (ee wh : Int32) : pv_Mi l κ yX5_worth wsX5_worth rmX5_worth L f [.ref (x 11 2), .int ee, .int wh] 0 0 (pv_Ei κ x L (mE Z (tWorth z ee wh) (mChg (¬ bH z ee = 0 ∧ ¬ bW wh 1 99 = 0) g sn (zu z 3 (cl ee) wh) (n)))) := by
  refine pv_startI (cc := cX5_worth) (maxL := 4) (ret := (some .int)) (by decide) rfl (Nat.le_of_ble_eq_true rfl) (fun A0 P0 E0 S0 M0 a0 B0 T0 C0 hC => ?_)
  refine pg_sub (vs' := [(0, .ref (x 11 2)), (1, .int ee), (2, .int wh)]) [0, 1, 2] rfl ?_
  have hn12 := hS.2.1.n12
  refine pg_aload_n (pc := 0) hC dX5_worth_0 0 rfl rfl ?_
  refine pg_iload_n (pc := 1) hC dX5_worth_1 1 rfl rfl ?_
  refine pg_callVRi (pc := 2) (As := [.int ee]) (rest := []) hC dX5_worth_2 (cX5_isExcuse_c l hok hS.1 hS.2.1 ee) (cwV 1 hC.2.2.2.2.1 gX5_worth_X5_isExcuse rfl rfl rfl (by decide +kernel) ⟨Nat.le_of_ble_eq_true rfl, Nat.le_of_ble_eq_true rfl⟩) (ok_mem hok (by decide)) (ok_Mo hok) rfl rfl rfl rfl (Nat.le_of_ble_eq_true rfl) (Nat.zero_le _) (Nat.zero_le _) ?_
  refine pg_if_ne (pc := 5) hC 10 dX5_worth_5 (by decide)  (fun c1 => ?_) (fun c1 => ?_)
  · skip
    obtain ⟨e, he, rfl⟩ := bH_nat hS.2.1.n (by omega) c1
    have cle : cl (nI e) = e := cl_nI (by omega)
    refine pg_iload_n (pc := 10) hC dX5_worth_10 2 rfl rfl ?_
    refine pg_iconst (pc := 11) (v := 1) hC dX5_worth_11 (by decide) ?_
    refine pg_bipush (pc := 12) (v := 99) hC dX5_worth_12 (by decide) ?_
    refine pg_callSRi (pc := 14) (As := [.int wh, .int 1, .int 99]) (rest := []) hC dX5_worth_14 (cX5_in_c l wh 1 99) (va_cwS 3 hC.2.2.2.2.1 gX5_worth_X5_in rfl rfl rfl (by decide +kernel) ⟨Nat.le_of_ble_eq_true rfl, Nat.le_of_ble_eq_true rfl⟩) rfl rfl (Nat.le_of_ble_eq_true rfl) (Nat.zero_le _) (Nat.zero_le _) ?_
    refine pg_if_ne (pc := 17) hC 23 dX5_worth_17 (by decide)  (fun c2 => ?_) (fun c2 => ?_)
    · skip
      refine pg_aload_n (pc := 23) hC dX5_worth_23 0 rfl rfl ?_
      refine pg_callVWv (pc := 24) (As := []) (rest := []) hC dX5_worth_24 (cX5_record_c l hok sn hsn hsn6) (cwV 0 hC.2.2.2.2.1 gX5_worth_X5_record rfl rfl rfl (by decide +kernel) ⟨Nat.le_of_ble_eq_true rfl, Nat.le_of_ble_eq_true rfl⟩) (ok_mem hok (by decide)) (ok_Mo hok) rfl rfl rfl rfl (Nat.le_of_ble_eq_true rfl) (Nat.zero_le _) (Nat.zero_le _) (fun f1 hokw1 => ?_)
      have hS1 : mS z n (mRec g sn 0) := by rw [mRec_0]; exact hS
      refine pg_aload_n (pc := 27) hC dX5_worth_27 0 rfl rfl ?_
      refine pg_iload_n (pc := 28) hC dX5_worth_28 1 rfl rfl ?_
      refine pg_iconst (pc := 29) (v := 1) hC dX5_worth_29 (by decide) ?_
      refine pg_callVRi (pc := 30) (As := [.int (nI e), .int 1]) (rest := []) hC dX5_worth_30 (cX5_ofExcuse_c l hokw1 (e) (1) (by omega) (by omega)) (cwV 2 hC.2.2.2.2.1 gX5_worth_X5_ofExcuse rfl rfl rfl (by decide +kernel) ⟨Nat.le_of_ble_eq_true rfl, Nat.le_of_ble_eq_true rfl⟩) (ok_mem hokw1 (by decide)) (ok_Mo hokw1) rfl rfl rfl rfl (Nat.le_of_ble_eq_true rfl) (Nat.zero_le _) (Nat.zero_le _) ?_
      refine pg_top (x' := z 3 e) (hS1.1 3 e (show e < 12 by omega)) ?_
      refine pg_istore_n (pc := 33) (vs' := [(3, .int (z 3 e)), (0, .ref (x 11 2)), (1, .int (nI e)), (2, .int wh)]) hC dX5_worth_33 rfl (by decide) rfl ?_
      refine pg_aload_n (pc := 34) hC dX5_worth_34 1 rfl rfl ?_
      refine pgM_geta (pc := 35) hC dX5_worth_35 0 (List.mem_of_getElem? (i := 1) rfl) miX5_worth_X5 hokw1 (by decide) ?_
      refine pg_bipush (pc := 38) (v := 18) hC dX5_worth_38 (by decide) ?_
      refine pg_iconst (pc := 40) (v := 3) hC dX5_worth_40 (by decide) ?_
      refine pg_iload_n (pc := 41) hC dX5_worth_41 2 rfl rfl ?_
      refine pg_imul (pc := 42) (v := nI (3 * e)) hC dX5_worth_42 (pk_mul (3) (e)) ?_
      refine pg_iadd (pc := 43) (v := nI (18 + (3 * e))) hC dX5_worth_43 (nI_add (18) (3 * e)) ?_
      refine pg_iconst (pc := 44) (v := 1) hC dX5_worth_44 (by decide) ?_
      refine pg_iadd (pc := 45) (v := nI (18 + (3 * e) + 1)) hC dX5_worth_45 (nI_add (18 + (3 * e)) (1)) ?_
      refine pg_iload_n (pc := 46) hC dX5_worth_46 3 rfl rfl ?_
      refine pgM_iast (pc := 47) hC dX5_worth_47 0 (18 + (3 * e) + 1) hokw1 (by decide) rfl (show (18 + (3 * e) + 1) < 234 by omega) (fun f2 hokw2 => ?_)
      refine pg_iload_n (pc := 48) hC dX5_worth_48 0 rfl rfl ?_
      exact pg_iret (pc := 49) hC dX5_worth_49 rfl ⟨rfl, _, hokw2, (by first | rfl | (simp [tWorth, c1, c2, cle]; done) | (simp_all [tWorth]; done)), ⟨_, rfl, Or.inr ⟨⟨c1, c2⟩, by rw [cle, zu_e]; exact mS_worth hS1 (by omega) c2, fun l hl => zu_o hl⟩⟩⟩
    · skip
      refine pg_bipush (pc := 20) (v := (-2)) hC dX5_worth_20 (by decide) ?_
      exact pg_iret (pc := 22) hC dX5_worth_22 rfl ⟨rfl, _, hok, (by first | rfl | (simp [tWorth, c1, c2, cle]; done) | (simp_all [tWorth]; done)), ⟨_, rfl, Or.inl ⟨fun q => q.2 c2, rfl⟩⟩⟩
  · skip
    refine pg_iconst (pc := 8) (v := (-1)) hC dX5_worth_8 (by decide) ?_
    exact pg_iret (pc := 9) hC dX5_worth_9 rfl ⟨rfl, _, hok, (by first | rfl | (simp [tWorth, c1]; done) | (simp_all [tWorth]; done)), ⟨_, rfl, Or.inl ⟨fun q => q.1 c1, rfl⟩⟩⟩
abbrev rmX5_offer : Room := { frames := 6, cells := 0, slots := 0, locals := 141 }
set_option maxHeartbeats 2000000 in
set_option maxRecDepth 20000 in
theorem cX5_offer_c (l : Launch) {κ : pv_Kt} {L : List Nat} {f : Nat → va_E} {x : Nat → Nat → Nat} {Z : Nat → Nat → Nat → Int32} {g : Nat → Nat → Int32} (hok : pv_ok κ x L f (va_up Z 11 g)) {z : Nat → Nat → Int32} {n : Nat} (hS : mS z n (g 0)) (sn : Nat) (hsn : g 2 0 = nI sn) (hsn6 : sn ≤ 6) (pp ee wt mn : Int32) : pv_Mi l κ yX5_offer wsX5_offer rmX5_offer L f [.ref (x 11 2), .int pp, .int ee, .int wt, .int mn] 0 0 (pv_Ei κ x L (mE Z (tWhy z pp ee wt mn) (mChg (tErr z pp ee wt mn = 0) g sn (sOffer z (cl pp) (cl ee) wt mn) (n)))) := by
  refine pv_startI (cc := cX5_offer) (maxL := 6) (ret := (some .int)) (by decide) rfl (Nat.le_of_ble_eq_true rfl) (fun A0 P0 E0 S0 M0 a0 B0 T0 C0 hC => ?_)
  refine pg_sub (vs' := [(0, .ref (x 11 2)), (1, .int pp), (2, .int ee), (3, .int wt), (4, .int mn)]) [0, 1, 2, 3, 4] rfl ?_
  have hn12 := hS.2.1.n12
  refine pg_aload_n (pc := 0) hC dX5_offer_0 0 rfl rfl ?_
  refine pg_iload_n (pc := 1) hC dX5_offer_1 1 rfl rfl ?_
  refine pg_iload_n (pc := 2) hC dX5_offer_2 2 rfl rfl ?_
  refine pg_iload_n (pc := 3) hC dX5_offer_3 3 rfl rfl ?_
  refine pg_iload (pc := 4) hC dX5_offer_4 4 rfl ?_
  refine pg_callVRi (pc := 6) (As := [.int pp, .int ee, .int wt, .int mn]) (rest := []) hC dX5_offer_6 (cX5_whyNotOffer_c l hok hS.1 hS.2.1 pp ee wt mn) (cwV 4 hC.2.2.2.2.1 gX5_offer_X5_whyNotOffer rfl rfl rfl (by decide +kernel) ⟨Nat.le_of_ble_eq_true rfl, Nat.le_of_ble_eq_true rfl⟩) (ok_mem hok (by decide)) (ok_Mo hok) rfl rfl rfl rfl (Nat.le_of_ble_eq_true rfl) (Nat.zero_le _) (Nat.zero_le _) ?_
  refine pg_istore (pc := 9) (vs' := [(5, .int (tErr z pp ee wt mn)), (0, .ref (x 11 2)), (1, .int pp), (2, .int ee), (3, .int wt), (4, .int mn)]) hC dX5_offer_9 (by decide) rfl ?_
  refine pg_iload (pc := 11) hC dX5_offer_11 0 rfl ?_
  refine pg_if_ge (pc := 13) hC 19 dX5_offer_13 (by decide)  (fun c1 => ?_) (fun c1 => ?_)
  · skip
    have q0 := tErr_ge c1
    obtain ⟨p, e, hp, he, rfl, rfl, hw⟩ := tErr_0 hS.2.1.n hn12 q0
    have hen : e < n := tErr_e hS.2.1.n hn12 q0
    have clp : cl (nI p) = p := cl_nI (by omega)
    have cle : cl (nI e) = e := cl_nI (by omega)
    refine pg_aload_n (pc := 19) hC dX5_offer_19 1 rfl rfl ?_
    refine pg_callVWv (pc := 20) (As := []) (rest := []) hC dX5_offer_20 (cX5_record_c l hok sn hsn hsn6) (cwV 0 hC.2.2.2.2.1 gX5_offer_X5_record rfl rfl rfl (by decide +kernel) ⟨Nat.le_of_ble_eq_true rfl, Nat.le_of_ble_eq_true rfl⟩) (ok_mem hok (by decide)) (ok_Mo hok) rfl rfl rfl rfl (Nat.le_of_ble_eq_true rfl) (Nat.zero_le _) (Nat.zero_le _) (fun f1 hokw1 => ?_)
    have hS1 : mS z n (mRec g sn 0) := by rw [mRec_0]; exact hS
    refine pg_aload_n (pc := 23) hC dX5_offer_23 1 rfl rfl ?_
    refine pg_iload_n (pc := 24) hC dX5_offer_24 2 rfl rfl ?_
    refine pg_iload_n (pc := 25) hC dX5_offer_25 3 rfl rfl ?_
    refine pg_iload_n (pc := 26) hC dX5_offer_26 4 rfl rfl ?_
    refine pg_iload (pc := 27) hC dX5_offer_27 5 rfl ?_
    refine pg_callVEi (pc := 29) (As := [.int (nI p), .int (nI e), .int wt, .int mn]) (rest := []) hC dX5_offer_29 (cX5_offerNow_c l hokw1 hS1 (p) (e) (by omega) (by omega) wt hw mn) (cwV 4 hC.2.2.2.2.1 gX5_offer_X5_offerNow rfl rfl rfl (by decide +kernel) ⟨Nat.le_of_ble_eq_true rfl, Nat.le_of_ble_eq_true rfl⟩) (ok_mem hokw1 (by decide)) (ok_Mo hokw1) rfl rfl rfl rfl (Nat.le_of_ble_eq_true rfl) (Nat.zero_le _) (Nat.zero_le _) (fun r2 f2 Z3 hokw2 hph4 => ?_)
    obtain ⟨hv8, g5, rfl, hS6, hO7⟩ := hph4
    exact pg_iret (pc := 32) hC dX5_offer_32 rfl ⟨rfl, _, hokw2, (hv8.trans (by simp [tWhy, q0, clp, cle])), ⟨_, rfl, Or.inr ⟨q0, by rw [clp, cle]; exact hS6, fun l hl => hO7 l hl⟩⟩⟩
  · skip
    have q0 := tErr_lt c1
    refine pg_iload (pc := 16) hC dX5_offer_16 0 rfl ?_
    exact pg_iret (pc := 18) hC dX5_offer_18 rfl ⟨rfl, _, hok, (by simp [tWhy, q0]), ⟨_, rfl, Or.inl ⟨q0, rfl⟩⟩⟩
abbrev rmX5_pay : Room := { frames := 2, cells := 0, slots := 0, locals := 45 }
set_option maxHeartbeats 2000000 in
set_option maxRecDepth 20000 in
theorem cX5_pay_c (l : Launch) {κ : pv_Kt} {L : List Nat} {f : Nat → va_E} {x : Nat → Nat → Nat} {Z : Nat → Nat → Nat → Int32} {g : Nat → Nat → Int32} (hok : pv_ok κ x L f (va_up Z 11 g)) {z : Nat → Nat → Int32} {n : Nat} (hS : mS z n (g 0)) (sn : Nat) (hsn : g 2 0 = nI sn) (hsn6 : sn ≤ 6) (pp pc : Int32) : pv_Mi l κ yX5_pay wsX5_pay rmX5_pay L f [.ref (x 11 2), .int pp, .int pc] 0 0 (pv_Ei κ x L (mE Z (tPay z pp pc) (mChg (¬ bW pp 0 9 = 0 ∧ ¬ bW pc 1 9999 = 0 ∧ pc ≤ z 7 (cl pp)) g sn (sPay z (cl pp) pc) (n)))) := by
  refine pv_startI (cc := cX5_pay) (maxL := 3) (ret := (some .int)) (by decide) rfl (Nat.le_of_ble_eq_true rfl) (fun A0 P0 E0 S0 M0 a0 B0 T0 C0 hC => ?_)
  refine pg_sub (vs' := [(0, .ref (x 11 2)), (1, .int pp), (2, .int pc)]) [0, 1, 2] rfl ?_
  have hn12 := hS.2.1.n12
  refine pg_iload_n (pc := 0) hC dX5_pay_0 1 rfl rfl ?_
  refine pg_callSRi (pc := 1) (As := [.int pp]) (rest := []) hC dX5_pay_1 (cX5_isPupil_c l pp) (va_cwS 1 hC.2.2.2.2.1 gX5_pay_X5_isPupil rfl rfl rfl (by decide +kernel) ⟨Nat.le_of_ble_eq_true rfl, Nat.le_of_ble_eq_true rfl⟩) rfl rfl (Nat.le_of_ble_eq_true rfl) (Nat.zero_le _) (Nat.zero_le _) ?_
  refine pg_if_ne (pc := 4) hC 9 dX5_pay_4 (by decide)  (fun c1 => ?_) (fun c1 => ?_)
  · skip
    obtain ⟨p, hp, rfl⟩ := bW_nat (m := 9) rfl (by decide) c1
    have clp : cl (nI p) = p := cl_nI (by omega)
    refine pg_iload_n (pc := 9) hC dX5_pay_9 2 rfl rfl ?_
    refine pg_iconst (pc := 10) (v := 1) hC dX5_pay_10 (by decide) ?_
    refine pg_sipush (pc := 11) (v := 9999) hC dX5_pay_11 (by decide) ?_
    refine pg_callSRi (pc := 14) (As := [.int pc, .int 1, .int 9999]) (rest := []) hC dX5_pay_14 (cX5_in_c l pc 1 9999) (va_cwS 3 hC.2.2.2.2.1 gX5_pay_X5_in rfl rfl rfl (by decide +kernel) ⟨Nat.le_of_ble_eq_true rfl, Nat.le_of_ble_eq_true rfl⟩) rfl rfl (Nat.le_of_ble_eq_true rfl) (Nat.zero_le _) (Nat.zero_le _) ?_
    refine pg_if_ne (pc := 17) hC 23 dX5_pay_17 (by decide)  (fun c2 => ?_) (fun c2 => ?_)
    · skip
      refine pg_aload_n (pc := 23) hC dX5_pay_23 0 rfl rfl ?_
      refine pg_iload_n (pc := 24) hC dX5_pay_24 1 rfl rfl ?_
      refine pg_iconst (pc := 25) (v := 1) hC dX5_pay_25 (by decide) ?_
      refine pg_callVRi (pc := 26) (As := [.int (nI p), .int 1]) (rest := []) hC dX5_pay_26 (cX5_of_c l hok (p) (1) (by omega) (by omega)) (cwV 2 hC.2.2.2.2.1 gX5_pay_X5_of rfl rfl rfl (by decide +kernel) ⟨Nat.le_of_ble_eq_true rfl, Nat.le_of_ble_eq_true rfl⟩) (ok_mem hok (by decide)) (ok_Mo hok) rfl rfl rfl rfl (Nat.le_of_ble_eq_true rfl) (Nat.zero_le _) (Nat.zero_le _) ?_
      refine pg_top (x' := z 7 p) (hS.1 7 p (show p < 10 by omega)) ?_
      refine pg_iload_n (pc := 29) hC dX5_pay_29 2 rfl rfl ?_
      refine pg_icmp_ge (pc := 30) hC 36 dX5_pay_30 (by decide)  (fun c3 => ?_) (fun c3 => ?_)
      · skip
        refine pg_aload_n (pc := 36) hC dX5_pay_36 0 rfl rfl ?_
        refine pg_callVWv (pc := 37) (As := []) (rest := []) hC dX5_pay_37 (cX5_record_c l hok sn hsn hsn6) (cwV 0 hC.2.2.2.2.1 gX5_pay_X5_record rfl rfl rfl (by decide +kernel) ⟨Nat.le_of_ble_eq_true rfl, Nat.le_of_ble_eq_true rfl⟩) (ok_mem hok (by decide)) (ok_Mo hok) rfl rfl rfl rfl (Nat.le_of_ble_eq_true rfl) (Nat.zero_le _) (Nat.zero_le _) (fun f1 hokw1 => ?_)
        have hS1 : mS z n (mRec g sn 0) := by rw [mRec_0]; exact hS
        refine pg_aload_n (pc := 40) hC dX5_pay_40 0 rfl rfl ?_
        refine pg_iload_n (pc := 41) hC dX5_pay_41 1 rfl rfl ?_
        refine pg_iconst (pc := 42) (v := 1) hC dX5_pay_42 (by decide) ?_
        refine pg_aload_n (pc := 43) hC dX5_pay_43 0 rfl rfl ?_
        refine pg_iload_n (pc := 44) hC dX5_pay_44 1 rfl rfl ?_
        refine pg_iconst (pc := 45) (v := 1) hC dX5_pay_45 (by decide) ?_
        refine pg_callVRi (pc := 46) (As := [.int (nI p), .int 1]) (rest := [.int 1, .int (nI p), .ref (x 11 2)]) hC dX5_pay_46 (cX5_of_c l hokw1 (p) (1) (by omega) (by omega)) (cwV 2 hC.2.2.2.2.1 gX5_pay_X5_of rfl rfl rfl (by decide +kernel) ⟨Nat.le_of_ble_eq_true rfl, Nat.le_of_ble_eq_true rfl⟩) (ok_mem hokw1 (by decide)) (ok_Mo hokw1) rfl rfl rfl rfl (Nat.le_of_ble_eq_true rfl) (Nat.zero_le _) (Nat.zero_le _) ?_
        refine pg_top (x' := z 7 p) (hS1.1 7 p (show p < 10 by omega)) ?_
        refine pg_iload_n (pc := 49) hC dX5_pay_49 2 rfl rfl ?_
        refine pg_isub (pc := 50) (v := (z 7 p) - pc) hC dX5_pay_50 rfl ?_
        refine pg_callVWv (pc := 51) (As := [.int (nI p), .int 1, .int ((z 7 p) - pc)]) (rest := []) hC dX5_pay_51 (cX5_lay_c l hokw1 (p) (1) (by omega) (by omega) ((z 7 p) - pc)) (cwV 3 hC.2.2.2.2.1 gX5_pay_X5_lay rfl rfl rfl (by decide +kernel) ⟨Nat.le_of_ble_eq_true rfl, Nat.le_of_ble_eq_true rfl⟩) (ok_mem hokw1 (by decide)) (ok_Mo hokw1) rfl rfl rfl rfl (Nat.le_of_ble_eq_true rfl) (Nat.zero_le _) (Nat.zero_le _) (fun f2 hokw2 => ?_)
        have hS2 := hS1.up (k := 7) (i := p) (show p < 10 by omega) (z 7 p - pc) (by decide) (by decide) (hS1.2.1.free _ (by decide))
        refine pg_aload_n (pc := 54) hC dX5_pay_54 0 rfl rfl ?_
        refine pg_iload_n (pc := 55) hC dX5_pay_55 1 rfl rfl ?_
        refine pg_iconst (pc := 56) (v := 5) hC dX5_pay_56 (by decide) ?_
        refine pg_aload_n (pc := 57) hC dX5_pay_57 0 rfl rfl ?_
        refine pg_iload_n (pc := 58) hC dX5_pay_58 1 rfl rfl ?_
        refine pg_iconst (pc := 59) (v := 5) hC dX5_pay_59 (by decide) ?_
        refine pg_callVRi (pc := 60) (As := [.int (nI p), .int 5]) (rest := [.int 5, .int (nI p), .ref (x 11 2)]) hC dX5_pay_60 (cX5_of_c l hokw2 (p) (5) (by omega) (by omega)) (cwV 2 hC.2.2.2.2.1 gX5_pay_X5_of rfl rfl rfl (by decide +kernel) ⟨Nat.le_of_ble_eq_true rfl, Nat.le_of_ble_eq_true rfl⟩) (ok_mem hokw2 (by decide)) (ok_Mo hokw2) rfl rfl rfl rfl (Nat.le_of_ble_eq_true rfl) (Nat.zero_le _) (Nat.zero_le _) ?_
        refine pg_top (x' := z 8 p) (hS2.1 8 p (show p < 10 by omega)) ?_
        refine pg_iload_n (pc := 63) hC dX5_pay_63 2 rfl rfl ?_
        refine pg_iadd (pc := 64) (v := (z 8 p) + pc) hC dX5_pay_64 rfl ?_
        refine pg_callVWv (pc := 65) (As := [.int (nI p), .int 5, .int ((z 8 p) + pc)]) (rest := []) hC dX5_pay_65 (cX5_lay_c l hokw2 (p) (5) (by omega) (by omega) ((z 8 p) + pc)) (cwV 3 hC.2.2.2.2.1 gX5_pay_X5_lay rfl rfl rfl (by decide +kernel) ⟨Nat.le_of_ble_eq_true rfl, Nat.le_of_ble_eq_true rfl⟩) (ok_mem hokw2 (by decide)) (ok_Mo hokw2) rfl rfl rfl rfl (Nat.le_of_ble_eq_true rfl) (Nat.zero_le _) (Nat.zero_le _) (fun f3 hokw3 => ?_)
        have hS3 := hS2.up (k := 8) (i := p) (show p < 10 by omega) (z 8 p + pc) (by decide) (by decide) (hS2.2.1.free _ (by decide))
        refine pg_aload_n (pc := 68) hC dX5_pay_68 0 rfl rfl ?_
        refine pg_iload_n (pc := 69) hC dX5_pay_69 1 rfl rfl ?_
        refine pg_iconst (pc := 70) (v := 1) hC dX5_pay_70 (by decide) ?_
        refine pg_callVRi (pc := 71) (As := [.int (nI p), .int 1]) (rest := []) hC dX5_pay_71 (cX5_of_c l hokw3 (p) (1) (by omega) (by omega)) (cwV 2 hC.2.2.2.2.1 gX5_pay_X5_of rfl rfl rfl (by decide +kernel) ⟨Nat.le_of_ble_eq_true rfl, Nat.le_of_ble_eq_true rfl⟩) (ok_mem hokw3 (by decide)) (ok_Mo hokw3) rfl rfl rfl rfl (Nat.le_of_ble_eq_true rfl) (Nat.zero_le _) (Nat.zero_le _) ?_
        refine pg_top (x' := z 7 p - pc) ((hS3.1 7 p (show p < 10 by omega)).trans (by simp [zu, va_up])) ?_
        exact pg_iret (pc := 74) hC dX5_pay_74 rfl ⟨rfl, _, hokw3, (by first | rfl | (simp [tPay, c1, c2, c3, clp]; done) | (simp_all [tPay]; done)), ⟨_, rfl, Or.inr ⟨⟨c1, c2, by rw [clp]; exact c3⟩, by rw [clp]; exact hS3, fun l hl => by rw [zu_o hl, zu_o hl]⟩⟩⟩
      · skip
        refine pg_bipush (pc := 33) (v := (-5)) hC dX5_pay_33 (by decide) ?_
        exact pg_iret (pc := 35) hC dX5_pay_35 rfl ⟨rfl, _, hok, (by first | rfl | (simp [tPay, c1, c2, c3, clp]; done) | (simp_all [tPay]; done)), ⟨_, rfl, Or.inl ⟨fun q => c3 (by have := q.2.2; rw [clp] at this; exact this), rfl⟩⟩⟩
    · skip
      refine pg_bipush (pc := 20) (v := (-2)) hC dX5_pay_20 (by decide) ?_
      exact pg_iret (pc := 22) hC dX5_pay_22 rfl ⟨rfl, _, hok, (by first | rfl | (simp [tPay, c1, c2, clp]; done) | (simp_all [tPay]; done)), ⟨_, rfl, Or.inl ⟨fun q => q.2.1 c2, rfl⟩⟩⟩
  · skip
    refine pg_iconst (pc := 7) (v := (-1)) hC dX5_pay_7 (by decide) ?_
    exact pg_iret (pc := 8) hC dX5_pay_8 rfl ⟨rfl, _, hok, (by first | rfl | (simp [tPay, c1]; done) | (simp_all [tPay]; done)), ⟨_, rfl, Or.inl ⟨fun q => q.1 c1, rfl⟩⟩⟩
abbrev rmX5_endTerm : Room := { frames := 2, cells := 0, slots := 0, locals := 45 }
theorem miX5_endTerm_X5 : ∀ w ∈ wsX50, w ∈ wsX5_endTerm := fun _ h => List.mem_cons_of_mem _ (List.mem_append_right _ h)
set_option maxHeartbeats 2000000 in
set_option maxRecDepth 20000 in
theorem cX5_endTerm_c (l : Launch) {κ : pv_Kt} {L : List Nat} {f : Nat → va_E} {x : Nat → Nat → Nat} {Z : Nat → Nat → Nat → Int32} {g : Nat → Nat → Int32} (hok : pv_ok κ x L f (va_up Z 11 g)) {z : Nat → Nat → Int32} {n : Nat} (hS : mS z n (g 0)) (sn : Nat) (hsn : g 2 0 = nI sn) (hsn6 : sn ≤ 6)  : pv_Mi l κ yX5_endTerm wsX5_endTerm rmX5_endTerm L f [.ref (x 11 2)] 0 0 (pv_Ei κ x L (mE Z (tEnd z) (mChg (True) g sn (sTerm z) (n)))) := by
  refine pv_startI (cc := cX5_endTerm) (maxL := 3) (ret := (some .int)) (by decide) rfl (Nat.le_of_ble_eq_true rfl) (fun A0 P0 E0 S0 M0 a0 B0 T0 C0 hC => ?_)
  refine pg_sub (vs' := [(0, .ref (x 11 2))]) [0] rfl ?_
  have hn12 := hS.2.1.n12
  refine pg_aload_n (pc := 0) hC dX5_endTerm_0 0 rfl rfl ?_
  refine pg_callVWv (pc := 1) (As := []) (rest := []) hC dX5_endTerm_1 (cX5_record_c l hok sn hsn hsn6) (cwV 0 hC.2.2.2.2.1 gX5_endTerm_X5_record rfl rfl rfl (by decide +kernel) ⟨Nat.le_of_ble_eq_true rfl, Nat.le_of_ble_eq_true rfl⟩) (ok_mem hok (by decide)) (ok_Mo hok) rfl rfl rfl rfl (Nat.le_of_ble_eq_true rfl) (Nat.zero_le _) (Nat.zero_le _) (fun f1 hokw1 => ?_)
  have hS1 : mS z n (mRec g sn 0) := by rw [mRec_0]; exact hS
  refine pg_aload_n (pc := 4) hC dX5_endTerm_4 0 rfl rfl ?_
  refine pgM_geta (pc := 5) hC dX5_endTerm_5 0 (List.mem_of_getElem? (i := 1) rfl) miX5_endTerm_X5 hokw1 (by decide) ?_
  refine pg_bipush (pc := 8) (v := 12) hC dX5_endTerm_8 (by decide) ?_
  refine pgM_iald (pc := 10) (v := tEnd z) hC dX5_endTerm_10 0 (12) hokw1 (by decide) (by decide) (by decide) rfl (show 12 < 234 by omega) hS1.2.2.2 ?_
  refine pg_istore_n (pc := 11) (vs' := [(1, .int (tEnd z)), (0, .ref (x 11 2))]) hC dX5_endTerm_11 rfl (by decide) rfl ?_
  refine pg_aload_n (pc := 12) hC dX5_endTerm_12 1 rfl rfl ?_
  refine pgM_geta (pc := 13) hC dX5_endTerm_13 0 (List.mem_of_getElem? (i := 1) rfl) miX5_endTerm_X5 hokw1 (by decide) ?_
  refine pg_bipush (pc := 16) (v := 12) hC dX5_endTerm_16 (by decide) ?_
  refine pg_iconst (pc := 18) (v := 0) hC dX5_endTerm_18 (by decide) ?_
  refine pgM_iast (pc := 19) hC dX5_endTerm_19 0 (12) hokw1 (by decide) rfl (show 12 < 234 by omega) (fun f2 hokw2 => ?_)
  refine pg_aload_n (pc := 20) hC dX5_endTerm_20 1 rfl rfl ?_
  refine pgM_geta (pc := 21) hC dX5_endTerm_21 0 (List.mem_of_getElem? (i := 1) rfl) miX5_endTerm_X5 hokw2 (by decide) ?_
  refine pg_bipush (pc := 24) (v := 11) hC dX5_endTerm_24 (by decide) ?_
  refine pg_dup2 (pc := 26) hC dX5_endTerm_26 rfl rfl ?_
  refine pgM_iald (pc := 27) (v := (zu (mRec g sn) 0 12 0) 0 11) hC dX5_endTerm_27 0 (11) hokw2 (by decide) (by decide) (by decide) rfl (show 11 < 234 by omega) rfl ?_
  refine pg_iconst (pc := 28) (v := 1) hC dX5_endTerm_28 (by decide) ?_
  refine pg_iadd (pc := 29) (v := ((zu (mRec g sn) 0 12 0) 0 11) + 1) hC dX5_endTerm_29 rfl ?_
  refine pgM_iast (pc := 30) hC dX5_endTerm_30 0 (11) hokw2 (by decide) rfl (show 11 < 234 by omega) (fun f3 hokw3 => ?_)
  refine pg_iconst (pc := 31) (v := 0) hC dX5_endTerm_31 (by decide) ?_
  refine pg_istore_n (pc := 32) (vs' := [(2, .int 0), (1, .int (tEnd z)), (0, .ref (x 11 2))]) hC dX5_endTerm_32 rfl (by decide) rfl ?_
  refine pg_sub (vs' := [(0, .ref (x 11 2)), (1, .int (tEnd z)), (2, .int 0)]) [2, 1, 0] rfl ?_
  refine pg_loop (pc := 33) (σ := Nat × (Nat → va_E)) (I := fun q => match q with | (k, f1) => k ≤ 120 ∧ pv_ok κ x L f1 (va_up Z 11 (mE1 (mEnd0 (mRec g sn)) k))) (μ := fun q => match q with | (k, f1) => 120 - k) (VS := fun q => match q with | (k, f1) => [(0, .ref (x 11 2)), (1, .int (tEnd z)), (2, .int (nI k))]) (FF := fun q => match q with | (k, f1) => f1) ?_ (0, f3) ⟨by decide, hokw3⟩
  intro q hI ih1
  obtain ⟨k, f1⟩ := q
  dsimp only at hI ih1 ⊢
  have hI2 := hI
  obtain ⟨hk, hok1⟩ := hI
  refine pg_iload_n (pc := 33) hC dX5_endTerm_33 2 rfl rfl ?_
  refine pg_bipush (pc := 34) (v := 120) hC dX5_endTerm_34 (by decide) ?_
  refine pg_icmp_geN (pc := 36) hC 55 dX5_endTerm_36 (by decide) (k) (120) rfl rfl (by omega) (by omega) (fun c2 => ?_) (fun c2 => ?_)
  · skip
    obtain rfl : k = 120 := by omega
    obtain ⟨G1, G1d⟩ : ∃ q, q = mE1 (mEnd0 (mRec g sn)) 120 := ⟨_, rfl⟩
    rw [← G1d] at hok1
    have hokG1 := hok1
    refine pg_vs (vs' := [(0, .ref (x 11 2)), (1, .int (tEnd z)), (2, .int 120)]) rfl ?_
    refine pg_iconst (pc := 55) (v := 0) hC dX5_endTerm_55 (by decide) ?_
    refine pg_istore_n (pc := 56) (vs' := [(2, .int 0), (0, .ref (x 11 2)), (1, .int (tEnd z))]) hC dX5_endTerm_56 rfl (by decide) rfl ?_
    refine pg_sub (vs' := [(0, .ref (x 11 2)), (1, .int (tEnd z)), (2, .int 0)]) [1, 2, 0] rfl ?_
    refine pg_loop (pc := 57) (σ := Nat × (Nat → va_E)) (I := fun q => match q with | (k, f1) => k ≤ 5 ∧ pv_ok κ x L f1 (va_up Z 11 (mE2 G1 k))) (μ := fun q => match q with | (k, f1) => 5 - k) (VS := fun q => match q with | (k, f1) => [(0, .ref (x 11 2)), (1, .int (tEnd z)), (2, .int (nI k))]) (FF := fun q => match q with | (k, f1) => f1) ?_ (0, f1) ⟨by decide, hokG1⟩
    intro q hI ih3
    obtain ⟨k, f1⟩ := q
    dsimp only at hI ih3 ⊢
    have hI2 := hI
    obtain ⟨hk, hok1⟩ := hI
    refine pg_iload_n (pc := 57) hC dX5_endTerm_57 2 rfl rfl ?_
    refine pg_iconst (pc := 58) (v := 5) hC dX5_endTerm_58 (by decide) ?_
    refine pg_icmp_geN (pc := 59) hC 88 dX5_endTerm_59 (by decide) (k) (5) rfl rfl (by omega) (by omega) (fun c4 => ?_) (fun c4 => ?_)
    · skip
      obtain rfl : k = 5 := by omega
      obtain ⟨G2, G2d⟩ : ∃ q, q = mE2 G1 5 := ⟨_, rfl⟩
      rw [← G2d] at hok1
      have hokG2 := hok1
      refine pg_vs (vs' := [(0, .ref (x 11 2)), (1, .int (tEnd z)), (2, .int 5)]) rfl ?_
      refine pg_iconst (pc := 88) (v := 0) hC dX5_endTerm_88 (by decide) ?_
      refine pg_istore_n (pc := 89) (vs' := [(2, .int 0), (0, .ref (x 11 2)), (1, .int (tEnd z))]) hC dX5_endTerm_89 rfl (by decide) rfl ?_
      refine pg_sub (vs' := [(0, .ref (x 11 2)), (1, .int (tEnd z)), (2, .int 0)]) [1, 2, 0] rfl ?_
      refine pg_loop (pc := 90) (σ := Nat × (Nat → va_E)) (I := fun q => match q with | (k, f1) => k ≤ 10 ∧ pv_ok κ x L f1 (va_up Z 11 (mE3 G2 k))) (μ := fun q => match q with | (k, f1) => 10 - k) (VS := fun q => match q with | (k, f1) => [(0, .ref (x 11 2)), (1, .int (tEnd z)), (2, .int (nI k))]) (FF := fun q => match q with | (k, f1) => f1) ?_ (0, f1) ⟨by decide, hokG2⟩
      intro q hI ih5
      obtain ⟨k, f1⟩ := q
      dsimp only at hI ih5 ⊢
      have hI2 := hI
      obtain ⟨hk, hok1⟩ := hI
      refine pg_iload_n (pc := 90) hC dX5_endTerm_90 2 rfl rfl ?_
      refine pg_bipush (pc := 91) (v := 10) hC dX5_endTerm_91 (by decide) ?_
      refine pg_icmp_geN (pc := 93) hC 140 dX5_endTerm_93 (by decide) (k) (10) rfl rfl (by omega) (by omega) (fun c6 => ?_) (fun c6 => ?_)
      · skip
        obtain rfl : k = 10 := by omega
        obtain ⟨G3, G3d⟩ : ∃ q, q = mE3 G2 10 := ⟨_, rfl⟩
        rw [← G3d] at hok1
        have hokG3 := hok1
        refine pg_vs (vs' := [(0, .ref (x 11 2)), (1, .int (tEnd z)), (2, .int 10)]) rfl ?_
        refine pg_iload_n (pc := 140) hC dX5_endTerm_140 1 rfl rfl ?_
        exact pg_iret (pc := 141) hC dX5_endTerm_141 rfl ⟨rfl, _, hokG3, rfl, ⟨_, rfl, Or.inr ⟨trivial, by rw [G3d, G2d, G1d]; exact mS_end hS1, fun l hl => by rw [G3d, G2d, G1d]; exact mEnd_o hl⟩⟩⟩
      · skip
        refine pg_aload_n (pc := 96) hC dX5_endTerm_96 0 rfl rfl ?_
        refine pg_iload_n (pc := 97) hC dX5_endTerm_97 2 rfl rfl ?_
        refine pg_iconst (pc := 98) (v := 4) hC dX5_endTerm_98 (by decide) ?_
        refine pg_bipush (pc := 99) (v := (-6)) hC dX5_endTerm_99 (by decide) ?_
        refine pg_callVWv (pc := 101) (As := [.int (nI k), .int 4, .int (-6)]) (rest := []) hC dX5_endTerm_101 (cX5_lay_c l hok1 (k) (4) (by omega) (by omega) (-6)) (cwV 3 hC.2.2.2.2.1 gX5_endTerm_X5_lay rfl rfl rfl (by decide +kernel) ⟨Nat.le_of_ble_eq_true rfl, Nat.le_of_ble_eq_true rfl⟩) (ok_mem hok1 (by decide)) (ok_Mo hok1) rfl rfl rfl rfl (Nat.le_of_ble_eq_true rfl) (Nat.zero_le _) (Nat.zero_le _) (fun f4 hokw4 => ?_)
        refine pg_aload_n (pc := 104) hC dX5_endTerm_104 0 rfl rfl ?_
        refine pg_iload_n (pc := 105) hC dX5_endTerm_105 2 rfl rfl ?_
        refine pg_iconst (pc := 106) (v := 0) hC dX5_endTerm_106 (by decide) ?_
        refine pg_aload_n (pc := 107) hC dX5_endTerm_107 0 rfl rfl ?_
        refine pg_iload_n (pc := 108) hC dX5_endTerm_108 2 rfl rfl ?_
        refine pg_iconst (pc := 109) (v := 0) hC dX5_endTerm_109 (by decide) ?_
        refine pg_callVRi (pc := 110) (As := [.int (nI k), .int 0]) (rest := [.int 0, .int (nI k), .ref (x 11 2)]) hC dX5_endTerm_110 (cX5_of_c l hokw4 (k) (0) (by omega) (by omega)) (cwV 2 hC.2.2.2.2.1 gX5_endTerm_X5_of rfl rfl rfl (by decide +kernel) ⟨Nat.le_of_ble_eq_true rfl, Nat.le_of_ble_eq_true rfl⟩) (ok_mem hokw4 (by decide)) (ok_Mo hokw4) rfl rfl rfl rfl (Nat.le_of_ble_eq_true rfl) (Nat.zero_le _) (Nat.zero_le _) ?_
        refine pg_bipush (pc := 113) (v := 7) hC dX5_endTerm_113 (by decide) ?_
        refine pg_icmp_le (pc := 115) hC 123 dX5_endTerm_115 (by decide)  (fun c7 => ?_) (fun c7 => ?_)
        · skip
          refine pg_aload_n (pc := 123) hC dX5_endTerm_123 0 rfl rfl ?_
          refine pg_iload_n (pc := 124) hC dX5_endTerm_124 2 rfl rfl ?_
          refine pg_iconst (pc := 125) (v := 0) hC dX5_endTerm_125 (by decide) ?_
          refine pg_callVRi (pc := 126) (As := [.int (nI k), .int 0]) (rest := [.int 0, .int (nI k), .ref (x 11 2)]) hC dX5_endTerm_126 (cX5_of_c l hokw4 (k) (0) (by omega) (by omega)) (cwV 2 hC.2.2.2.2.1 gX5_endTerm_X5_of rfl rfl rfl (by decide +kernel) ⟨Nat.le_of_ble_eq_true rfl, Nat.le_of_ble_eq_true rfl⟩) (ok_mem hokw4 (by decide)) (ok_Mo hokw4) rfl rfl rfl rfl (Nat.le_of_ble_eq_true rfl) (Nat.zero_le _) (Nat.zero_le _) ?_
          refine pg_iconst (pc := 129) (v := 2) hC dX5_endTerm_129 (by decide) ?_
          refine pg_iadd (pc := 130) (v := ((zu (mE3 G2 k) 0 (54 + 6 * k + 4) (-6)) 0 (54 + 6 * k + 0)) + 2) hC dX5_endTerm_130 rfl ?_
          refine pg_top (x' := mCr (mLay (mE3 G2 k) k 4 (-6) 0 (54 + 6 * k + 0))) (by unfold mCr mLay; rw [if_pos c7]) ?_
          refine pg_callVWv (pc := 131) (As := [.int (nI k), .int 0, .int (mCr (mLay (mE3 G2 k) k 4 (-6) 0 (54 + 6 * k + 0)))]) (rest := []) hC dX5_endTerm_131 (cX5_lay_c l hokw4 (k) (0) (by omega) (by omega) (mCr (mLay (mE3 G2 k) k 4 (-6) 0 (54 + 6 * k + 0)))) (cwV 3 hC.2.2.2.2.1 gX5_endTerm_X5_lay rfl rfl rfl (by decide +kernel) ⟨Nat.le_of_ble_eq_true rfl, Nat.le_of_ble_eq_true rfl⟩) (ok_mem hokw4 (by decide)) (ok_Mo hokw4) rfl rfl rfl rfl (Nat.le_of_ble_eq_true rfl) (Nat.zero_le _) (Nat.zero_le _) (fun f5 hokw5 => ?_)
          refine pg_iinc (pc := 134) (v := nI (k + 1)) (vs' := [(2, .int (nI (k + 1))), (0, .ref (x 11 2)), (1, .int (tEnd z))]) hC dX5_endTerm_134 2 rfl (nI_add (k) 1) (by decide) rfl ?_
          refine pg_goto (pc := 137) hC 90 dX5_endTerm_137 (by decide) ?_
          refine pg_sub (vs' := [(0, .ref (x 11 2)), (1, .int (tEnd z)), (2, .int (nI (k + 1)))]) [1, 2, 0] rfl ?_
          exact ih5 (k + 1, f5) ⟨(show k + 1 ≤ 10 by omega), hokw5⟩ (by omega)
        · skip
          refine pg_bipush (pc := 118) (v := 9) hC dX5_endTerm_118 (by decide) ?_
          refine pg_goto (pc := 120) hC 131 dX5_endTerm_120 (by decide) ?_
          refine pg_top (x' := mCr (mLay (mE3 G2 k) k 4 (-6) 0 (54 + 6 * k + 0))) (by unfold mCr mLay; rw [if_neg c7]) ?_
          refine pg_callVWv (pc := 131) (As := [.int (nI k), .int 0, .int (mCr (mLay (mE3 G2 k) k 4 (-6) 0 (54 + 6 * k + 0)))]) (rest := []) hC dX5_endTerm_131 (cX5_lay_c l hokw4 (k) (0) (by omega) (by omega) (mCr (mLay (mE3 G2 k) k 4 (-6) 0 (54 + 6 * k + 0)))) (cwV 3 hC.2.2.2.2.1 gX5_endTerm_X5_lay rfl rfl rfl (by decide +kernel) ⟨Nat.le_of_ble_eq_true rfl, Nat.le_of_ble_eq_true rfl⟩) (ok_mem hokw4 (by decide)) (ok_Mo hokw4) rfl rfl rfl rfl (Nat.le_of_ble_eq_true rfl) (Nat.zero_le _) (Nat.zero_le _) (fun f6 hokw6 => ?_)
          refine pg_iinc (pc := 134) (v := nI (k + 1)) (vs' := [(2, .int (nI (k + 1))), (0, .ref (x 11 2)), (1, .int (tEnd z))]) hC dX5_endTerm_134 2 rfl (nI_add (k) 1) (by decide) rfl ?_
          refine pg_goto (pc := 137) hC 90 dX5_endTerm_137 (by decide) ?_
          refine pg_sub (vs' := [(0, .ref (x 11 2)), (1, .int (tEnd z)), (2, .int (nI (k + 1)))]) [1, 2, 0] rfl ?_
          exact ih5 (k + 1, f6) ⟨(show k + 1 ≤ 10 by omega), hokw6⟩ (by omega)
    · skip
      refine pg_aload_n (pc := 62) hC dX5_endTerm_62 0 rfl rfl ?_
      refine pgM_geta (pc := 63) hC dX5_endTerm_63 0 (List.mem_of_getElem? (i := 1) rfl) miX5_endTerm_X5 hok1 (by decide) ?_
      refine pg_bipush (pc := 66) (v := 13) hC dX5_endTerm_66 (by decide) ?_
      refine pg_iload_n (pc := 68) hC dX5_endTerm_68 2 rfl rfl ?_
      refine pg_iadd (pc := 69) (v := nI (13 + k)) hC dX5_endTerm_69 (nI_add (13) (k)) ?_
      refine pg_aload_n (pc := 70) hC dX5_endTerm_70 0 rfl rfl ?_
      refine pgM_geta (pc := 71) hC dX5_endTerm_71 0 (List.mem_of_getElem? (i := 1) rfl) miX5_endTerm_X5 hok1 (by decide) ?_
      refine pg_bipush (pc := 74) (v := 13) hC dX5_endTerm_74 (by decide) ?_
      refine pg_iload_n (pc := 76) hC dX5_endTerm_76 2 rfl rfl ?_
      refine pg_iadd (pc := 77) (v := nI (13 + k)) hC dX5_endTerm_77 (nI_add (13) (k)) ?_
      refine pgM_iald (pc := 78) (v := (mE2 G1 k) 0 (13 + k)) hC dX5_endTerm_78 0 (13 + k) hok1 (by decide) (by decide) (by decide) rfl (show (13 + k) < 234 by omega) rfl ?_
      refine pg_iconst (pc := 79) (v := 2) hC dX5_endTerm_79 (by decide) ?_
      refine pg_idiv (pc := 80) (v := ((mE2 G1 k) 0 (13 + k)) / 2) hC dX5_endTerm_80 (by decide) rfl ?_
      refine pgM_iast (pc := 81) hC dX5_endTerm_81 0 (13 + k) hok1 (by decide) rfl (show (13 + k) < 234 by omega) (fun f7 hokw7 => ?_)
      refine pg_iinc (pc := 82) (v := nI (k + 1)) (vs' := [(2, .int (nI (k + 1))), (0, .ref (x 11 2)), (1, .int (tEnd z))]) hC dX5_endTerm_82 2 rfl (nI_add (k) 1) (by decide) rfl ?_
      refine pg_goto (pc := 85) hC 57 dX5_endTerm_85 (by decide) ?_
      refine pg_sub (vs' := [(0, .ref (x 11 2)), (1, .int (tEnd z)), (2, .int (nI (k + 1)))]) [1, 2, 0] rfl ?_
      exact ih3 (k + 1, f7) ⟨(show k + 1 ≤ 5 by omega), hokw7⟩ (by omega)
  · skip
    refine pg_aload_n (pc := 39) hC dX5_endTerm_39 0 rfl rfl ?_
    refine pgM_geta (pc := 40) hC dX5_endTerm_40 0 (List.mem_of_getElem? (i := 1) rfl) miX5_endTerm_X5 hok1 (by decide) ?_
    refine pg_bipush (pc := 43) (v := 114) hC dX5_endTerm_43 (by decide) ?_
    refine pg_iload_n (pc := 45) hC dX5_endTerm_45 2 rfl rfl ?_
    refine pg_iadd (pc := 46) (v := nI (114 + k)) hC dX5_endTerm_46 (nI_add (114) (k)) ?_
    refine pg_iconst (pc := 47) (v := 0) hC dX5_endTerm_47 (by decide) ?_
    refine pgM_iast (pc := 48) hC dX5_endTerm_48 0 (114 + k) hok1 (by decide) rfl (show (114 + k) < 234 by omega) (fun f8 hokw8 => ?_)
    refine pg_iinc (pc := 49) (v := nI (k + 1)) (vs' := [(2, .int (nI (k + 1))), (0, .ref (x 11 2)), (1, .int (tEnd z))]) hC dX5_endTerm_49 2 rfl (nI_add (k) 1) (by decide) rfl ?_
    refine pg_goto (pc := 52) hC 33 dX5_endTerm_52 (by decide) ?_
    refine pg_sub (vs' := [(0, .ref (x 11 2)), (1, .int (tEnd z)), (2, .int (nI (k + 1)))]) [1, 2, 0] rfl ?_
    exact ih1 (k + 1, f8) ⟨(show k + 1 ≤ 120 by omega), hokw8⟩ (by omega)
