abbrev rmX5_readMinutes : Room := { frames := 3, cells := 0, slots := 0, locals := 66 }
theorem miX5_readMinutes_X5 : ∀ w ∈ wsX50, w ∈ wsX5_readMinutes := fun _ h => List.mem_cons_of_mem _ (List.mem_append_right _ h)
set_option maxHeartbeats 2000000 in
set_option maxRecDepth 20000 in
theorem cX5_readMinutes_c (l : Launch) {κ : pv_Kt} {L : List Nat} {f : Nat → va_E} {x : Nat → Nat → Nat} {Z : Nat → Nat → Nat → Int32} {g : Nat → Nat → Int32} (hok : pv_ok κ x L f (va_up Z 11 g)) {ch : Nat → Int32} (hch : g 5 = ch) {s pl : Nat} (hs : g 7 0 = nI s) (hp : g 6 0 = nI pl) (hsp : s ≤ pl) (hpl : pl ≤ 60) {s0 : Nat} {r0 r : Nat → Nat → Int32} {d e : Nat} (hr : Run ch pl s0 r0 s r) (q0 : r 0 0 = 3) (q1 : r 1 0 = nI d) (q2 : r 2 0 = nI e) (q4 : r 4 0 = -6) : pv_Mi l κ yX5_readMinutes wsX5_readMinutes rmX5_readMinutes L f [.ref (x 11 2)] 0 0 (pv_Ei κ x L (mMin Z g ch pl s s0 r0 d e)) := by
  refine pv_startI (cc := cX5_readMinutes) (maxL := 1) (ret := (some .boolean)) (by decide) rfl (Nat.le_of_ble_eq_true rfl) (fun A0 P0 E0 S0 M0 a0 B0 T0 C0 hC => ?_)
  refine pg_sub (vs' := [(0, .ref (x 11 2))]) [0] rfl ?_
  refine pg_aload_n (pc := 0) hC dX5_readMinutes_0 0 rfl rfl ?_
  refine pg_aload_n (pc := 1) hC dX5_readMinutes_1 0 rfl rfl ?_
  refine pg_bipush (pc := 2) (v := 49) hC dX5_readMinutes_2 (by decide) ?_
  refine pg_bipush (pc := 4) (v := 57) hC dX5_readMinutes_4 (by decide) ?_
  refine pg_callVWi (pc := 6) (As := [.int 49, .int 57]) (rest := [.ref (x 11 2)]) hC dX5_readMinutes_6 (cX5_takesOne_c l hok hch (s := s) hs hp (by omega) hpl 49 57) (cwV 2 hC.2.2.2.2.1 gX5_readMinutes_X5_takesOne rfl rfl rfl (by decide +kernel) ⟨Nat.le_of_ble_eq_true rfl, Nat.le_of_ble_eq_true rfl⟩) (ok_mem hok (by decide)) (ok_Mo hok) rfl rfl rfl rfl (Nat.le_of_ble_eq_true rfl) (Nat.zero_le _) (Nat.zero_le _) (fun f1 hokw1 => ?_)
  by_cases c1 : mSees ch s pl 49 57 = 0
  · skip
    rw [if_pos c1] at hokw1
    refine pg_top (x' := -6) (if_pos c1) ?_
    refine pg_iconst (pc := 9) (v := 1) hC dX5_readMinutes_9 (by decide) ?_
    refine pg_iadd (pc := 10) (v := (-5)) hC dX5_readMinutes_10 add_m6 ?_
    refine pgM_puti (pc := 11) hC dX5_readMinutes_11 10 (List.mem_of_getElem? (i := 1) rfl) miX5_readMinutes_X5 hokw1 (by decide) (fun f2 hokw2 => ?_)
    refine pg_aload_n (pc := 14) hC dX5_readMinutes_14 0 rfl rfl ?_
    refine pgM_geti (pc := 15) (v := (-5)) hC dX5_readMinutes_15 10 (List.mem_of_getElem? (i := 1) rfl) miX5_readMinutes_X5 hokw2 (by decide) (by simp [zu, zc, va_up]) ?_
    refine pg_iconst (pc := 18) (v := 1) hC dX5_readMinutes_18 (by decide) ?_
    refine pg_icmp_ge (pc := 19) hC 24 dX5_readMinutes_19 (by decide)  (fun c2 => False.elim (absurd c2 (by decide))) (fun c2 => ?_)
    refine pg_iconst (pc := 22) (v := 0) hC dX5_readMinutes_22 (by decide) ?_
    exact pg_zret (pc := 23) hC dX5_readMinutes_23 rfl rfl ⟨rfl, _, hokw2, ⟨_, s, rfl, fun l h7 h10 => (zu_o h10), hs, Nat.le_refl _, hsp, Or.inl ⟨rfl, F_min hr q0 (mSees_neg c1)⟩⟩⟩
  · skip
    rw [if_neg c1] at hokw1
    refine pg_top (x' := ch s - 49) (if_neg c1) ?_
    have hltc1 := (mSees_pos c1).1
    obtain ⟨d1, hd1, hc1, hv1⟩ := bW_off (a := 49) (b := 57) rfl rfl (by decide) (by decide) (mSees_pos c1).2
    refine pg_top (x' := nI d1) hv1 ?_
    obtain ⟨r1, hr1, q10, q11, q12, q13, q14⟩ := R_min1 hr q0 q1 q2 q4 hltc1 (a := d1 + 1) (by omega) (by omega) (by rw [hc1, show 49 + d1 = 48 + (d1 + 1) by omega])
    refine pg_iconst (pc := 9) (v := 1) hC dX5_readMinutes_9 (by decide) ?_
    refine pg_iadd (pc := 10) (v := nI (d1 + 1)) hC dX5_readMinutes_10 (nI_add d1 1) ?_
    refine pgM_puti (pc := 11) hC dX5_readMinutes_11 10 (List.mem_of_getElem? (i := 1) rfl) miX5_readMinutes_X5 hokw1 (by decide) (fun f3 hokw3 => ?_)
    refine pg_aload_n (pc := 14) hC dX5_readMinutes_14 0 rfl rfl ?_
    refine pgM_geti (pc := 15) (v := nI (d1 + 1)) hC dX5_readMinutes_15 10 (List.mem_of_getElem? (i := 1) rfl) miX5_readMinutes_X5 hokw3 (by decide) (by simp [zu, zc, va_up]) ?_
    refine pg_iconst (pc := 18) (v := 1) hC dX5_readMinutes_18 (by decide) ?_
    refine pg_icmp_geN (pc := 19) hC 24 dX5_readMinutes_19 (by decide) (d1 + 1) (1) rfl rfl (by omega) (by omega) (fun c3 => ?_) (fun c3 => False.elim (by omega))
    refine pg_aload_n (pc := 24) hC dX5_readMinutes_24 0 rfl rfl ?_
    refine pg_bipush (pc := 25) (v := 48) hC dX5_readMinutes_25 (by decide) ?_
    refine pg_bipush (pc := 27) (v := 57) hC dX5_readMinutes_27 (by decide) ?_
    refine pg_callVRi (pc := 29) (As := [.int 48, .int 57]) (rest := []) hC dX5_readMinutes_29 (cX5_sees_c l hokw3 hch (s := s + 1) rfl hp (by omega) hpl 48 57) (cwV 2 hC.2.2.2.2.1 gX5_readMinutes_X5_sees rfl rfl rfl (by decide +kernel) ⟨Nat.le_of_ble_eq_true rfl, Nat.le_of_ble_eq_true rfl⟩) (ok_mem hokw3 (by decide)) (ok_Mo hokw3) rfl rfl rfl rfl (Nat.le_of_ble_eq_true rfl) (Nat.zero_le _) (Nat.zero_le _) ?_
    by_cases c4 : mSees ch (s + 1) pl 48 57 = 0
    · skip
      refine pg_top (x' := 0) c4 ?_
      refine pg_if_eq (pc := 32) hC 55 dX5_readMinutes_32 (by decide)  (fun c5 => ?_) (fun c5 => False.elim (absurd (by decide) c5))
      refine pg_iconst (pc := 55) (v := 1) hC dX5_readMinutes_55 (by decide) ?_
      exact pg_zret (pc := 56) hC dX5_readMinutes_56 rfl rfl ⟨rfl, _, hokw3, ⟨_, s + 1, rfl, fun l h7 h10 => ((zu_o h10).trans (zu_o h7)), rfl, by omega, by omega, Or.inr ⟨rfl, r1, hr1, Or.inl ⟨q10, fun hl => mSees_b c4 hl⟩, q11, q12, q14, q13.symm⟩⟩⟩
    · skip
      refine pg_top (x' := 1) (mSees_1 c4) ?_
      refine pg_if_eq (pc := 32) hC 55 dX5_readMinutes_32 (by decide)  (fun c6 => False.elim (absurd c6 (by decide))) (fun c6 => ?_)
      refine pg_aload_n (pc := 35) hC dX5_readMinutes_35 0 rfl rfl ?_
      refine pg_bipush (pc := 36) (v := 10) hC dX5_readMinutes_36 (by decide) ?_
      refine pg_aload_n (pc := 38) hC dX5_readMinutes_38 0 rfl rfl ?_
      refine pgM_geti (pc := 39) (v := nI (d1 + 1)) hC dX5_readMinutes_39 10 (List.mem_of_getElem? (i := 1) rfl) miX5_readMinutes_X5 hokw3 (by decide) (by simp [zu, zc, va_up]) ?_
      refine pg_imul (pc := 42) (v := nI (10 * (d1 + 1))) hC dX5_readMinutes_42 (pk_mul (10) (d1 + 1)) ?_
      refine pg_aload_n (pc := 43) hC dX5_readMinutes_43 0 rfl rfl ?_
      refine pg_bipush (pc := 44) (v := 48) hC dX5_readMinutes_44 (by decide) ?_
      refine pg_bipush (pc := 46) (v := 57) hC dX5_readMinutes_46 (by decide) ?_
      refine pg_callVWi (pc := 48) (As := [.int 48, .int 57]) (rest := [.int (nI (10 * (d1 + 1))), .ref (x 11 2)]) hC dX5_readMinutes_48 (cX5_takesOne_c l hokw3 hch (s := s + 1) rfl hp (by omega) hpl 48 57) (cwV 2 hC.2.2.2.2.1 gX5_readMinutes_X5_takesOne rfl rfl rfl (by decide +kernel) ⟨Nat.le_of_ble_eq_true rfl, Nat.le_of_ble_eq_true rfl⟩) (ok_mem hokw3 (by decide)) (ok_Mo hokw3) rfl rfl rfl rfl (Nat.le_of_ble_eq_true rfl) (Nat.zero_le _) (Nat.zero_le _) (fun f4 hokw4 => ?_)
      by_cases c7 : mSees ch (s + 1) pl 48 57 = 0
      · skip
        rw [if_pos c7] at hokw4
        refine pg_top (x' := -6) (if_pos c7) ?_
        exact absurd c7 c4
      · skip
        rw [if_neg c7] at hokw4
        refine pg_top (x' := ch (s + 1) - 48) (if_neg c7) ?_
        have hltc7 := (mSees_pos c7).1
        obtain ⟨b1, hb1, hc2, hv2⟩ := rDig_d (mSees_pos c7).2
        refine pg_top (x' := nI b1) hv2 ?_
        obtain ⟨r2, hr2, q20, q21, q22, q23, q24⟩ := R_min2 hr1 q10 q11 q12 q13 q14 hltc7 hb1 hc2
        refine pg_iadd (pc := 51) (v := nI (10 * (d1 + 1) + b1)) hC dX5_readMinutes_51 (nI_add (10 * (d1 + 1)) (b1)) ?_
        refine pgM_puti (pc := 52) hC dX5_readMinutes_52 10 (List.mem_of_getElem? (i := 1) rfl) miX5_readMinutes_X5 hokw4 (by decide) (fun f5 hokw5 => ?_)
        refine pg_iconst (pc := 55) (v := 1) hC dX5_readMinutes_55 (by decide) ?_
        exact pg_zret (pc := 56) hC dX5_readMinutes_56 rfl rfl ⟨rfl, _, hokw5, ⟨_, s + 1 + 1, rfl, fun l h7 h10 => ((zu_o h10).trans ((zu_o h7).trans ((zu_o h10).trans (zu_o h7)))), rfl, by omega, by omega, Or.inr ⟨rfl, r2, hr2, Or.inr q20, q21, q22, q24, q23.symm⟩⟩⟩
abbrev rmX5_readOffer : Room := { frames := 4, cells := 0, slots := 0, locals := 86 }
theorem miX5_readOffer_X5 : ∀ w ∈ wsX50, w ∈ wsX5_readOffer := fun _ h => List.mem_cons_of_mem _ (List.mem_append_right _ h)
set_option maxHeartbeats 4000000 in
set_option maxRecDepth 20000 in
theorem cX5_readOffer_c (l : Launch) {κ : pv_Kt} {L : List Nat} {f : Nat → va_E} {x : Nat → Nat → Nat} {Z : Nat → Nat → Nat → Int32} {g : Nat → Nat → Int32} (hok : pv_ok κ x L f (va_up Z 11 g)) {ch : Nat → Int32} (hch : g 5 = ch) {s pl : Nat} (hs : g 7 0 = nI s) (hp : g 6 0 = nI pl) (hsp : s ≤ pl) (hpl : pl ≤ 60) {r0 : Nat → Nat → Int32} (q0 : r0 0 0 = 0) (q4 : r0 4 0 = -6) : pv_Mi l κ yX5_readOffer wsX5_readOffer rmX5_readOffer L f [.ref (x 11 2)] 0 0 (pv_Ei κ x L (mOff Z g ch pl s r0)) := by
  refine pv_startI (cc := cX5_readOffer) (maxL := 1) (ret := (some .boolean)) (by decide) rfl (Nat.le_of_ble_eq_true rfl) (fun A0 P0 E0 S0 M0 a0 B0 T0 C0 hC => ?_)
  refine pg_sub (vs' := [(0, .ref (x 11 2))]) [0] rfl ?_
  have hr : Run ch pl s r0 s r0 := Run.rf hsp
  refine pg_aload_n (pc := 0) hC dX5_readOffer_0 0 rfl rfl ?_
  refine pg_aload_n (pc := 1) hC dX5_readOffer_1 0 rfl rfl ?_
  refine pg_bipush (pc := 2) (v := 48) hC dX5_readOffer_2 (by decide) ?_
  refine pg_bipush (pc := 4) (v := 57) hC dX5_readOffer_4 (by decide) ?_
  refine pg_callVWi (pc := 6) (As := [.int 48, .int 57]) (rest := [.ref (x 11 2)]) hC dX5_readOffer_6 (cX5_takesOne_c l hok hch (s := s) hs hp (by omega) hpl 48 57) (cwV 2 hC.2.2.2.2.1 gX5_readOffer_X5_takesOne rfl rfl rfl (by decide +kernel) ⟨Nat.le_of_ble_eq_true rfl, Nat.le_of_ble_eq_true rfl⟩) (ok_mem hok (by decide)) (ok_Mo hok) rfl rfl rfl rfl (Nat.le_of_ble_eq_true rfl) (Nat.zero_le _) (Nat.zero_le _) (fun f1 hokw1 => ?_)
  by_cases c1 : mSees ch s pl 48 57 = 0
  · skip
    rw [if_pos c1] at hokw1
    refine pg_top (x' := -6) (if_pos c1) ?_
    refine pgM_puti (pc := 9) hC dX5_readOffer_9 8 (List.mem_of_getElem? (i := 1) rfl) miX5_readOffer_X5 hokw1 (by decide) (fun f2 hokw2 => ?_)
    refine pg_aload_n (pc := 12) hC dX5_readOffer_12 0 rfl rfl ?_
    refine pg_aload_n (pc := 13) hC dX5_readOffer_13 0 rfl rfl ?_
    refine pgM_geti (pc := 14) (v := (-6)) hC dX5_readOffer_14 8 (List.mem_of_getElem? (i := 1) rfl) miX5_readOffer_X5 hokw2 (by decide) (by simp [zu, zc, va_up]) ?_
    refine pg_bipush (pc := 17) (v := (-6)) hC dX5_readOffer_17 (by decide) ?_
    refine pg_icmp_ne (pc := 19) hC 27 dX5_readOffer_19 (by decide)  (fun c2 => False.elim (absurd rfl c2)) (fun c2 => ?_)
    refine pg_bipush (pc := 22) (v := (-6)) hC dX5_readOffer_22 (by decide) ?_
    refine pg_goto (pc := 24) hC 35 dX5_readOffer_24 (by decide) ?_
    refine pgM_puti (pc := 35) hC dX5_readOffer_35 9 (List.mem_of_getElem? (i := 2) rfl) miX5_readOffer_X5 hokw2 (by decide) (fun f3 hokw3 => ?_)
    refine pg_aload_n (pc := 38) hC dX5_readOffer_38 0 rfl rfl ?_
    refine pg_bipush (pc := 39) (v := (-6)) hC dX5_readOffer_39 (by decide) ?_
    refine pgM_puti (pc := 41) hC dX5_readOffer_41 11 (List.mem_of_getElem? (i := 3) rfl) miX5_readOffer_X5 hokw3 (by decide) (fun f4 hokw4 => ?_)
    refine pg_aload_n (pc := 44) hC dX5_readOffer_44 0 rfl rfl ?_
    refine pgM_geti (pc := 45) (v := (-6)) hC dX5_readOffer_45 9 (List.mem_of_getElem? (i := 2) rfl) miX5_readOffer_X5 hokw4 (by decide) (by simp [zu, zc, va_up]) ?_
    refine pg_bipush (pc := 48) (v := (-6)) hC dX5_readOffer_48 (by decide) ?_
    refine pg_icmp_eq (pc := 50) hC 69 dX5_readOffer_50 (by decide)  (fun c3 => ?_) (fun c3 => False.elim (absurd (by decide) c3))
    refine pg_iconst (pc := 69) (v := 0) hC dX5_readOffer_69 (by decide) ?_
    exact pg_zret (pc := 70) hC dX5_readOffer_70 rfl rfl ⟨rfl, _, hokw4, ⟨_, s, rfl, fun l hl => ((zu_o (by omega)).trans ((zu_o (by omega)).trans (zu_o (by omega)))), hs, by omega, Or.inl ⟨rfl, F_pupil hr q0 (mSees_neg c1)⟩⟩⟩
  · skip
    rw [if_neg c1] at hokw1
    refine pg_top (x' := ch s - 48) (if_neg c1) ?_
    have hltc1 := (mSees_pos c1).1
    obtain ⟨p, r1, hp10, hvp, hr1, q10, q11, q14⟩ := R_pupil hr q0 q4 hltc1 (mSees_pos c1).2
    refine pg_top (x' := nI p) hvp ?_
    refine pgM_puti (pc := 9) hC dX5_readOffer_9 8 (List.mem_of_getElem? (i := 1) rfl) miX5_readOffer_X5 hokw1 (by decide) (fun f5 hokw5 => ?_)
    refine pg_aload_n (pc := 12) hC dX5_readOffer_12 0 rfl rfl ?_
    refine pg_aload_n (pc := 13) hC dX5_readOffer_13 0 rfl rfl ?_
    refine pgM_geti (pc := 14) (v := nI p) hC dX5_readOffer_14 8 (List.mem_of_getElem? (i := 1) rfl) miX5_readOffer_X5 hokw5 (by decide) (by simp [zu, zc, va_up]) ?_
    refine pg_bipush (pc := 17) (v := (-6)) hC dX5_readOffer_17 (by decide) ?_
    refine pg_icmp_ne (pc := 19) hC 27 dX5_readOffer_19 (by decide)  (fun c4 => ?_) (fun c4 => False.elim ((nI_m6 (by omega)) c4))
    refine pg_aload_n (pc := 27) hC dX5_readOffer_27 0 rfl rfl ?_
    refine pg_bipush (pc := 28) (v := 97) hC dX5_readOffer_28 (by decide) ?_
    refine pg_bipush (pc := 30) (v := 108) hC dX5_readOffer_30 (by decide) ?_
    refine pg_callVWi (pc := 32) (As := [.int 97, .int 108]) (rest := [.ref (x 11 2)]) hC dX5_readOffer_32 (cX5_takesOne_c l hokw5 hch (s := s + 1) rfl hp (by omega) hpl 97 108) (cwV 2 hC.2.2.2.2.1 gX5_readOffer_X5_takesOne rfl rfl rfl (by decide +kernel) ⟨Nat.le_of_ble_eq_true rfl, Nat.le_of_ble_eq_true rfl⟩) (ok_mem hokw5 (by decide)) (ok_Mo hokw5) rfl rfl rfl rfl (Nat.le_of_ble_eq_true rfl) (Nat.zero_le _) (Nat.zero_le _) (fun f6 hokw6 => ?_)
    by_cases c5 : mSees ch (s + 1) pl 97 108 = 0
    · skip
      rw [if_pos c5] at hokw6
      refine pg_top (x' := -6) (if_pos c5) ?_
      refine pgM_puti (pc := 35) hC dX5_readOffer_35 9 (List.mem_of_getElem? (i := 2) rfl) miX5_readOffer_X5 hokw6 (by decide) (fun f7 hokw7 => ?_)
      refine pg_aload_n (pc := 38) hC dX5_readOffer_38 0 rfl rfl ?_
      refine pg_bipush (pc := 39) (v := (-6)) hC dX5_readOffer_39 (by decide) ?_
      refine pgM_puti (pc := 41) hC dX5_readOffer_41 11 (List.mem_of_getElem? (i := 3) rfl) miX5_readOffer_X5 hokw7 (by decide) (fun f8 hokw8 => ?_)
      refine pg_aload_n (pc := 44) hC dX5_readOffer_44 0 rfl rfl ?_
      refine pgM_geti (pc := 45) (v := (-6)) hC dX5_readOffer_45 9 (List.mem_of_getElem? (i := 2) rfl) miX5_readOffer_X5 hokw8 (by decide) (by simp [zu, zc, va_up]) ?_
      refine pg_bipush (pc := 48) (v := (-6)) hC dX5_readOffer_48 (by decide) ?_
      refine pg_icmp_eq (pc := 50) hC 69 dX5_readOffer_50 (by decide)  (fun c6 => ?_) (fun c6 => False.elim (absurd (by decide) c6))
      refine pg_iconst (pc := 69) (v := 0) hC dX5_readOffer_69 (by decide) ?_
      exact pg_zret (pc := 70) hC dX5_readOffer_70 rfl rfl ⟨rfl, _, hokw8, ⟨_, s + 1, rfl, fun l hl => ((zu_o (by omega)).trans ((zu_o (by omega)).trans ((zu_o (by omega)).trans (zu_o (by omega))))), rfl, by omega, Or.inl ⟨rfl, F_excuse hr1 q10 (mSees_neg c5)⟩⟩⟩
    · skip
      rw [if_neg c5] at hokw6
      refine pg_top (x' := ch (s + 1) - 97) (if_neg c5) ?_
      have hltc5 := (mSees_pos c5).1
      obtain ⟨e, r2, he12, hve, hr2, q20, q21, q22, q24⟩ := R_excuse hr1 q10 q11 q14 hltc5 (mSees_pos c5).2
      refine pg_top (x' := nI e) hve ?_
      refine pgM_puti (pc := 35) hC dX5_readOffer_35 9 (List.mem_of_getElem? (i := 2) rfl) miX5_readOffer_X5 hokw6 (by decide) (fun f9 hokw9 => ?_)
      refine pg_aload_n (pc := 38) hC dX5_readOffer_38 0 rfl rfl ?_
      refine pg_bipush (pc := 39) (v := (-6)) hC dX5_readOffer_39 (by decide) ?_
      refine pgM_puti (pc := 41) hC dX5_readOffer_41 11 (List.mem_of_getElem? (i := 3) rfl) miX5_readOffer_X5 hokw9 (by decide) (fun f10 hokw10 => ?_)
      refine pg_aload_n (pc := 44) hC dX5_readOffer_44 0 rfl rfl ?_
      refine pgM_geti (pc := 45) (v := nI e) hC dX5_readOffer_45 9 (List.mem_of_getElem? (i := 2) rfl) miX5_readOffer_X5 hokw10 (by decide) (by simp [zu, zc, va_up]) ?_
      refine pg_bipush (pc := 48) (v := (-6)) hC dX5_readOffer_48 (by decide) ?_
      refine pg_icmp_eq (pc := 50) hC 69 dX5_readOffer_50 (by decide)  (fun c7 => False.elim ((nI_m6 (by omega)) c7)) (fun c7 => ?_)
      refine pg_aload_n (pc := 53) hC dX5_readOffer_53 0 rfl rfl ?_
      refine pg_bipush (pc := 54) (v := 109) hC dX5_readOffer_54 (by decide) ?_
      refine pg_callVWi (pc := 56) (As := [.int 109]) (rest := []) hC dX5_readOffer_56 (cX5_takes_c l hokw10 hch (s := s + 1 + 1) rfl hp (by omega) hpl 109) (cwV 1 hC.2.2.2.2.1 gX5_readOffer_X5_takes rfl rfl rfl (by decide +kernel) ⟨Nat.le_of_ble_eq_true rfl, Nat.le_of_ble_eq_true rfl⟩) (ok_mem hokw10 (by decide)) (ok_Mo hokw10) rfl rfl rfl rfl (Nat.le_of_ble_eq_true rfl) (Nat.zero_le _) (Nat.zero_le _) (fun f11 hokw11 => ?_)
      by_cases c8 : mSees ch (s + 1 + 1) pl 109 109 = 0
      · skip
        rw [if_pos c8] at hokw11
        refine pg_top (x' := 0) c8 ?_
        refine pg_if_eq (pc := 59) hC 69 dX5_readOffer_59 (by decide)  (fun c9 => ?_) (fun c9 => False.elim (absurd (by decide) c9))
        refine pg_iconst (pc := 69) (v := 0) hC dX5_readOffer_69 (by decide) ?_
        exact pg_zret (pc := 70) hC dX5_readOffer_70 rfl rfl ⟨rfl, _, hokw11, ⟨_, s + 1 + 1, rfl, fun l hl => ((zu_o (by omega)).trans ((zu_o (by omega)).trans ((zu_o (by omega)).trans ((zu_o (by omega)).trans ((zu_o (by omega)).trans (zu_o (by omega))))))), rfl, by omega, Or.inl ⟨rfl, F_m hr2 q20 (mSees_neg c8)⟩⟩⟩
      · skip
        rw [if_neg c8] at hokw11
        refine pg_top (x' := 1) (mSees_1 c8) ?_
        have hltc8 := (mSees_pos c8).1
        obtain ⟨r3, hr3, q30, q31, q32, q34⟩ := R_m hr2 q20 q21 q22 q24 hltc8 (mSees_pos c8).2
        refine pg_if_eq (pc := 59) hC 69 dX5_readOffer_59 (by decide)  (fun c10 => False.elim (absurd c10 (by decide))) (fun c10 => ?_)
        refine pg_aload_n (pc := 62) hC dX5_readOffer_62 0 rfl rfl ?_
        refine pg_callVEi (pc := 63) (As := []) (rest := []) hC dX5_readOffer_63 (cX5_readMinutes_c l hokw11 hch (s := s + 1 + 1 + 1) rfl hp (by omega) hpl hr3 q30 q31 q32 q34) (cwV 0 hC.2.2.2.2.1 gX5_readOffer_X5_readMinutes rfl rfl rfl (by decide +kernel) ⟨Nat.le_of_ble_eq_true rfl, Nat.le_of_ble_eq_true rfl⟩) (ok_mem hokw11 (by decide)) (ok_Mo hokw11) rfl rfl rfl rfl (Nat.le_of_ble_eq_true rfl) (Nat.zero_le _) (Nat.zero_le _) (fun r11 f12 Z12 hokw12 hph13 => ?_)
        obtain ⟨g2, s2, rfl, ho2, h72, hle2, hpl2, hca2⟩ := hph13
        have hch2 : g2 5 = ch := (ho2 5 (by decide) (by decide)).trans hch
        have hp2 : g2 6 0 = nI pl := (congrFun (ho2 6 (by decide) (by decide)) 0).trans hp
        have h82 : g2 8 0 = nI p := congrFun (ho2 8 (by decide) (by decide)) 0
        have h92 : g2 9 0 = nI e := congrFun (ho2 9 (by decide) (by decide)) 0
        have h112 : g2 11 0 = -6 := congrFun (ho2 11 (by decide) (by decide)) 0
        have hg2 : ∀ l : Nat, l < 7 → g2 l = g l := fun l hl => (ho2 l (by omega) (by omega)).trans ((zu_o (by omega)).trans ((zu_o (by omega)).trans ((zu_o (by omega)).trans ((zu_o (by omega)).trans ((zu_o (by omega)).trans (zu_o (by omega)))))))
        rcases hca2 with ⟨hv2, hF2⟩ | ⟨hv2, r4, hr4, q40, q41, q42, q44, h102⟩
        · skip
          refine pg_top (x' := 0) hv2 ?_
          refine pg_if_ne (pc := 66) hC 71 dX5_readOffer_66 (by decide)  (fun c14 => False.elim (absurd c14 (by decide))) (fun c14 => ?_)
          refine pg_iconst (pc := 69) (v := 0) hC dX5_readOffer_69 (by decide) ?_
          exact pg_zret (pc := 70) hC dX5_readOffer_70 rfl rfl ⟨rfl, _, hokw12, ⟨_, s2, rfl, fun l hl => (hg2 l hl), h72, by omega, Or.inl ⟨rfl, hF2⟩⟩⟩
        · skip
          refine pg_top (x' := 1) hv2 ?_
          obtain ⟨mn, hmn⟩ : ∃ q, r4 3 0 = q := ⟨_, rfl⟩
          refine pg_if_ne (pc := 66) hC 71 dX5_readOffer_66 (by decide)  (fun c15 => ?_) (fun c15 => False.elim (absurd c15 (by decide)))
          refine pg_aload_n (pc := 71) hC dX5_readOffer_71 0 rfl rfl ?_
          refine pg_bipush (pc := 72) (v := 119) hC dX5_readOffer_72 (by decide) ?_
          refine pg_callVWi (pc := 74) (As := [.int 119]) (rest := []) hC dX5_readOffer_74 (cX5_takes_c l hokw12 hch2 (s := s2) h72 hp2 (by omega) hpl 119) (cwV 1 hC.2.2.2.2.1 gX5_readOffer_X5_takes rfl rfl rfl (by decide +kernel) ⟨Nat.le_of_ble_eq_true rfl, Nat.le_of_ble_eq_true rfl⟩) (ok_mem hokw12 (by decide)) (ok_Mo hokw12) rfl rfl rfl rfl (Nat.le_of_ble_eq_true rfl) (Nat.zero_le _) (Nat.zero_le _) (fun f13 hokw13 => ?_)
          by_cases c16 : mSees ch s2 pl 119 119 = 0
          · skip
            rw [if_pos c16] at hokw13
            refine pg_top (x' := 0) c16 ?_
            have q40b : s2 < pl → r4 0 0 = 4 ∧ rDig (ch s2) = 0 ∨ r4 0 0 = 5 := fun hl => q40.imp (fun q => ⟨q.1, q.2 hl⟩) id
            refine pg_if_ne (pc := 77) hC 82 dX5_readOffer_77 (by decide)  (fun c17 => False.elim (absurd c17 (by decide))) (fun c17 => ?_)
            refine pg_iconst (pc := 80) (v := 1) hC dX5_readOffer_80 (by decide) ?_
            exact pg_zret (pc := 81) hC dX5_readOffer_81 rfl rfl ⟨rfl, _, hokw13, ⟨_, s2, rfl, fun l hl => ((zu_o (by omega)).trans (hg2 l hl)), rfl, by omega, Or.inr ⟨rfl, by omega, r4, p, e, hr4, (q40.elim (fun q => D_4 q.1) D_5), hp10, he12, q41, q42, Or.inl q44, h82, h92, h102, (h112.trans q44.symm), fun hl hc => N_45 (q40b hl) (mSees_b c16 hl) hc⟩⟩⟩
          · skip
            rw [if_neg c16] at hokw13
            refine pg_top (x' := 1) (mSees_1 c16) ?_
            have hltc16 := (mSees_pos c16).1
            have q40b : r4 0 0 = 4 ∧ rDig (ch s2) = 0 ∨ r4 0 0 = 5 := q40.imp (fun q => ⟨q.1, q.2 hltc16⟩) id
            obtain ⟨r5, hr5, q50, q51, q52, q53, q54⟩ := R_w hr4 q40b q41 q42 rfl q44 hltc16 (mSees_pos c16).2
            refine pg_if_ne (pc := 77) hC 82 dX5_readOffer_77 (by decide)  (fun c18 => ?_) (fun c18 => False.elim (absurd c18 (by decide)))
            refine pg_aload_n (pc := 82) hC dX5_readOffer_82 0 rfl rfl ?_
            refine pg_bipush (pc := 83) (v := 48) hC dX5_readOffer_83 (by decide) ?_
            refine pg_aload_n (pc := 85) hC dX5_readOffer_85 0 rfl rfl ?_
            refine pgM_geti (pc := 86) (v := nI p) hC dX5_readOffer_86 8 (List.mem_of_getElem? (i := 1) rfl) miX5_readOffer_X5 hokw13 (by decide) h82 ?_
            refine pg_iadd (pc := 89) (v := nI (48 + p)) hC dX5_readOffer_89 (nI_add (48) (p)) ?_
            refine pg_bipush (pc := 90) (v := 48) hC dX5_readOffer_90 (by decide) ?_
            refine pg_aload_n (pc := 92) hC dX5_readOffer_92 0 rfl rfl ?_
            refine pgM_geti (pc := 93) (v := nI p) hC dX5_readOffer_93 8 (List.mem_of_getElem? (i := 1) rfl) miX5_readOffer_X5 hokw13 (by decide) h82 ?_
            refine pg_iadd (pc := 96) (v := nI (48 + p)) hC dX5_readOffer_96 (nI_add (48) (p)) ?_
            refine pg_callVRi (pc := 97) (As := [.int (nI (48 + p)), .int (nI (48 + p))]) (rest := []) hC dX5_readOffer_97 (cX5_sees_c l hokw13 hch2 (s := s2 + 1) rfl hp2 (by omega) hpl (nI (48 + p)) (nI (48 + p))) (cwV 2 hC.2.2.2.2.1 gX5_readOffer_X5_sees rfl rfl rfl (by decide +kernel) ⟨Nat.le_of_ble_eq_true rfl, Nat.le_of_ble_eq_true rfl⟩) (ok_mem hokw13 (by decide)) (ok_Mo hokw13) rfl rfl rfl rfl (Nat.le_of_ble_eq_true rfl) (Nat.zero_le _) (Nat.zero_le _) ?_
            by_cases c19 : mSees ch (s2 + 1) pl (nI (48 + p)) (nI (48 + p)) = 0
            · skip
              refine pg_top (x' := 0) c19 ?_
              refine pg_if_eq (pc := 100) hC 105 dX5_readOffer_100 (by decide)  (fun c20 => ?_) (fun c20 => False.elim (absurd (by decide) c20))
              refine pg_aload_n (pc := 105) hC dX5_readOffer_105 0 rfl rfl ?_
              refine pg_aload_n (pc := 106) hC dX5_readOffer_106 0 rfl rfl ?_
              refine pg_bipush (pc := 107) (v := 48) hC dX5_readOffer_107 (by decide) ?_
              refine pg_bipush (pc := 109) (v := 57) hC dX5_readOffer_109 (by decide) ?_
              refine pg_callVWi (pc := 111) (As := [.int 48, .int 57]) (rest := [.ref (x 11 2)]) hC dX5_readOffer_111 (cX5_takesOne_c l hokw13 hch2 (s := s2 + 1) rfl hp2 (by omega) hpl 48 57) (cwV 2 hC.2.2.2.2.1 gX5_readOffer_X5_takesOne rfl rfl rfl (by decide +kernel) ⟨Nat.le_of_ble_eq_true rfl, Nat.le_of_ble_eq_true rfl⟩) (ok_mem hokw13 (by decide)) (ok_Mo hokw13) rfl rfl rfl rfl (Nat.le_of_ble_eq_true rfl) (Nat.zero_le _) (Nat.zero_le _) (fun f14 hokw14 => ?_)
              by_cases c21 : mSees ch (s2 + 1) pl 48 57 = 0
              · skip
                rw [if_pos c21] at hokw14
                refine pg_top (x' := -6) (if_pos c21) ?_
                refine pgM_puti (pc := 114) hC dX5_readOffer_114 11 (List.mem_of_getElem? (i := 3) rfl) miX5_readOffer_X5 hokw14 (by decide) (fun f15 hokw15 => ?_)
                refine pg_aload_n (pc := 117) hC dX5_readOffer_117 0 rfl rfl ?_
                refine pgM_geti (pc := 118) (v := (-6)) hC dX5_readOffer_118 11 (List.mem_of_getElem? (i := 3) rfl) miX5_readOffer_X5 hokw15 (by decide) (by simp [zu, zc, va_up]) ?_
                refine pg_bipush (pc := 121) (v := (-6)) hC dX5_readOffer_121 (by decide) ?_
                refine pg_icmp_eq (pc := 123) hC 130 dX5_readOffer_123 (by decide)  (fun c22 => ?_) (fun c22 => False.elim (absurd (by decide) c22))
                refine pg_iconst (pc := 130) (v := 0) hC dX5_readOffer_130 (by decide) ?_
                exact pg_zret (pc := 131) hC dX5_readOffer_131 rfl rfl ⟨rfl, _, hokw15, ⟨_, s2 + 1, rfl, fun l hl => ((zu_o (by omega)).trans ((zu_o (by omega)).trans (hg2 l hl))), rfl, by omega, Or.inl ⟨rfl, F_wit hr5 q50 q51 hp10 (Or.inr (mSees_neg c21))⟩⟩⟩
              · skip
                rw [if_neg c21] at hokw14
                refine pg_top (x' := ch (s2 + 1) - 48) (if_neg c21) ?_
                have hltc21 := (mSees_pos c21).1
                obtain ⟨w, r6, hw10, hvw, hr6, q60, q61, q62, q63, q64⟩ := R_wit hr5 q50 q51 q52 q53 hp10 hltc21 (mSees_neg c19) (mSees_pos c21).2
                refine pg_top (x' := nI w) hvw ?_
                refine pgM_puti (pc := 114) hC dX5_readOffer_114 11 (List.mem_of_getElem? (i := 3) rfl) miX5_readOffer_X5 hokw14 (by decide) (fun f16 hokw16 => ?_)
                refine pg_aload_n (pc := 117) hC dX5_readOffer_117 0 rfl rfl ?_
                refine pgM_geti (pc := 118) (v := nI w) hC dX5_readOffer_118 11 (List.mem_of_getElem? (i := 3) rfl) miX5_readOffer_X5 hokw16 (by decide) (by simp [zu, zc, va_up]) ?_
                refine pg_bipush (pc := 121) (v := (-6)) hC dX5_readOffer_121 (by decide) ?_
                refine pg_icmp_eq (pc := 123) hC 130 dX5_readOffer_123 (by decide)  (fun c23 => False.elim ((nI_m6 (by omega)) c23)) (fun c23 => ?_)
                refine pg_iconst (pc := 126) (v := 1) hC dX5_readOffer_126 (by decide) ?_
                refine pg_goto (pc := 127) hC 131 dX5_readOffer_127 (by decide) ?_
                exact pg_zret (pc := 131) hC dX5_readOffer_131 rfl rfl ⟨rfl, _, hokw16, ⟨_, s2 + 1 + 1, rfl, fun l hl => ((zu_o (by omega)).trans ((zu_o (by omega)).trans ((zu_o (by omega)).trans (hg2 l hl)))), rfl, by omega, Or.inr ⟨rfl, by omega, r6, p, e, hr6, (D_7 q60), hp10, he12, q61, q62, Or.inr ⟨w, hw10, q64⟩, h82, h92, (h102.trans q63.symm), q64.symm, fun hl hc => N_7 q60 hc⟩⟩⟩
            · skip
              refine pg_top (x' := 1) (mSees_1 c19) ?_
              refine pg_if_eq (pc := 100) hC 105 dX5_readOffer_100 (by decide)  (fun c24 => False.elim (absurd c24 (by decide))) (fun c24 => ?_)
              refine pg_iconst (pc := 103) (v := 0) hC dX5_readOffer_103 (by decide) ?_
              exact pg_zret (pc := 104) hC dX5_readOffer_104 rfl rfl ⟨rfl, _, hokw13, ⟨_, s2 + 1, rfl, fun l hl => ((zu_o (by omega)).trans (hg2 l hl)), rfl, by omega, Or.inl ⟨rfl, F_wit hr5 q50 q51 hp10 (Or.inl (mSees_pos c19))⟩⟩⟩
