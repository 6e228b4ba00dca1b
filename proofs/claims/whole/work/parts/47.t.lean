abbrev rmX5_readPad : Room := { frames := 6, cells := 0, slots := 0, locals := 141 }
theorem miX5_readPad_X5 : ∀ w ∈ wsX50, w ∈ wsX5_readPad := fun _ h => List.mem_cons_of_mem _ (List.mem_append_right _ h)
set_option maxHeartbeats 4000000 in
set_option maxRecDepth 20000 in
theorem cX5_readPad_c (l : Launch) {κ : pv_Kt} {L : List Nat} {f : Nat → va_E} {x : Nat → Nat → Nat} {Z : Nat → Nat → Nat → Int32} {g : Nat → Nat → Int32} (hok : pv_ok κ x L f (va_up Z 11 g)) {ch : Nat → Int32} (hch : g 5 = ch) {pl : Nat} (hp : g 6 0 = nI pl) (hpl : pl ≤ 60) {z : Nat → Nat → Int32} {n : Nat} {r0 : Nat → Nat → Int32} (q0 : r0 0 0 = 0) (q4 : r0 4 0 = -6) (off : Int32) (hoff : off = 0 ∨ off = 1) (hS : off = 1 → mS z n (g 0)) : pv_Mi l κ yX5_readPad wsX5_readPad rmX5_readPad L f [.ref (x 11 2), .int off] 0 0 (pv_Ei κ x L (mPad Z g ch pl r0 off z n)) := by
  refine pv_startI (cc := cX5_readPad) (maxL := 4) (ret := (some .int)) (by decide) rfl (Nat.le_of_ble_eq_true rfl) (fun A0 P0 E0 S0 M0 a0 B0 T0 C0 hC => ?_)
  refine pg_sub (vs' := [(0, .ref (x 11 2)), (1, .int off)]) [0, 1] rfl ?_
  refine pg_aload_n (pc := 0) hC dX5_readPad_0 0 rfl rfl ?_
  refine pg_iconst (pc := 1) (v := 0) hC dX5_readPad_1 (by decide) ?_
  refine pgM_puti (pc := 2) hC dX5_readPad_2 7 (List.mem_of_getElem? (i := 1) rfl) miX5_readPad_X5 hok (by decide) (fun f1 hokw1 => ?_)
  refine pg_iconst (pc := 5) (v := 0) hC dX5_readPad_5 (by decide) ?_
  refine pg_istore_n (pc := 6) (vs' := [(2, .int 0), (0, .ref (x 11 2)), (1, .int off)]) hC dX5_readPad_6 rfl (by decide) rfl ?_
  refine pg_iconst (pc := 7) (v := 1) hC dX5_readPad_7 (by decide) ?_
  refine pg_istore_n (pc := 8) (vs' := [(3, .int 1), (2, .int 0), (0, .ref (x 11 2)), (1, .int off)]) hC dX5_readPad_8 rfl (by decide) rfl ?_
  refine pg_sub (vs' := [(0, .ref (x 11 2)), (1, .int off), (2, .int 0), (3, .int 1)]) [2, 3, 1, 0] rfl ?_
  refine pg_loop (pc := 9) (σ := (Nat → va_E) × (Nat → Nat → Int32) × (Nat → Nat → Int32) × (Nat → Nat → Int32) × Nat × Nat × Int32) (I := fun q => match q with | (f1, G, z2, r, s, k, b) => pv_ok κ x L f1 (va_up Z 11 G) ∧ mPI g ch pl r0 off z n G z2 r s k b) (μ := fun q => match q with | (f1, G, z2, r, s, k, b) => 2 * (pl - s) + (if b = 0 then 0 else 1)) (VS := fun q => match q with | (f1, G, z2, r, s, k, b) => [(0, .ref (x 11 2)), (1, .int off), (2, .int (nI k)), (3, .int b)]) (FF := fun q => match q with | (f1, G, z2, r, s, k, b) => f1) ?_ (f1, zu g 7 0 0, z, r0, 0, 0, 1) ⟨hokw1, mPI_0 q0 q4 hS⟩
  intro q hI ih1
  obtain ⟨f1, G, z2, r, s, k, b⟩ := q
  dsimp only at hI ih1 ⊢
  have hI2 := hI
  obtain ⟨hok1, hI⟩ := hI
  have h71 : G 7 0 = nI s := hI.1.2.2.1
  have hs1 : s ≤ pl := hI.1.2.2.2.1
  have hk1 : k ≤ s := hI.1.2.2.2.2.1
  have hch1 : G 5 = ch := (hI.1.1 5 (by decide) (by decide)).trans hch
  have hp1 : G 6 0 = nI pl := (congrFun (hI.1.1 6 (by decide) (by decide)) 0).trans hp
  refine pg_iload_n (pc := 9) hC dX5_readPad_9 3 rfl rfl ?_
  refine pg_if_eq (pc := 10) hC 79 dX5_readPad_10 (by decide)  (fun c2 => ?_) (fun c2 => ?_)
  · skip
    refine pg_aload_n (pc := 79) hC dX5_readPad_79 0 rfl rfl ?_
    refine pgM_geti (pc := 80) (v := nI s) hC dX5_readPad_80 7 (List.mem_of_getElem? (i := 1) rfl) miX5_readPad_X5 hok1 (by decide) h71 ?_
    refine pg_aload_n (pc := 83) hC dX5_readPad_83 0 rfl rfl ?_
    refine pgM_geti (pc := 84) (v := nI pl) hC dX5_readPad_84 6 (List.mem_of_getElem? (i := 6) rfl) miX5_readPad_X5 hok1 (by decide) hp1 ?_
    refine pg_icmp_neN (pc := 87) hC 94 dX5_readPad_87 (by decide) (s) (pl) rfl rfl (by omega) (by omega) (fun c3 => ?_) (fun c3 => ?_)
    · skip
      refine pg_bipush (pc := 94) (v := (-6)) hC dX5_readPad_94 (by decide) ?_
      exact pg_iret (pc := 96) hC dX5_readPad_96 rfl ⟨rfl, _, hok1, (mPI_end hI c2 hpl).2 c3⟩
    · skip
      refine pg_iload_n (pc := 90) hC dX5_readPad_90 2 rfl rfl ?_
      refine pg_goto (pc := 91) hC 96 dX5_readPad_91 (by decide) ?_
      exact pg_iret (pc := 96) hC dX5_readPad_96 rfl ⟨rfl, _, hok1, (mPI_end hI c2 hpl).1 c3⟩
  · skip
    obtain ⟨hb1, q01, q41, -⟩ := hI.2.resolve_right (fun q => c2 q.1)
    refine pg_aload_n (pc := 13) hC dX5_readPad_13 0 rfl rfl ?_
    refine pg_callVEi (pc := 14) (As := []) (rest := []) hC dX5_readPad_14 (cX5_readOffer_c l hok1 hch1 (s := s) h71 hp1 (by omega) hpl q01 q41) (cwV 0 hC.2.2.2.2.1 gX5_readPad_X5_readOffer rfl rfl rfl (by decide +kernel) ⟨Nat.le_of_ble_eq_true rfl, Nat.le_of_ble_eq_true rfl⟩) (ok_mem hok1 (by decide)) (ok_Mo hok1) rfl rfl rfl rfl (Nat.le_of_ble_eq_true rfl) (Nat.zero_le _) (Nat.zero_le _) (fun r4 f2 Z5 hokw2 hph6 => ?_)
    obtain ⟨g2, s2, rfl, hg2, h72, hpl2, hca2⟩ := hph6
    have hch2 : g2 5 = ch := (hg2 5 (by decide)).trans hch1
    have hp2 : g2 6 0 = nI pl := (congrFun (hg2 6 (by decide)) 0).trans hp1
    rcases hca2 with ⟨hv2, hF2⟩ | ⟨hv2, hlt2, r2, p, e, hR2, hD2, hp10, he12, e1, e2, e4, h82, h92, h102, h112, hN2⟩
    · skip
      refine pg_top (x' := 0) hv2 ?_
      refine pg_if_ne (pc := 17) hC 23 dX5_readPad_17 (by decide)  (fun c7 => False.elim (absurd c7 (by decide))) (fun c7 => ?_)
      refine pg_bipush (pc := 20) (v := (-6)) hC dX5_readPad_20 (by decide) ?_
      exact pg_iret (pc := 22) hC dX5_readPad_22 rfl ⟨rfl, _, hokw2, mPI_bad hI hg2 h72 hpl2 hF2⟩
    · skip
      refine pg_top (x' := 1) hv2 ?_
      refine pg_if_ne (pc := 17) hC 23 dX5_readPad_17 (by decide)  (fun c8 => ?_) (fun c8 => False.elim (absurd c8 (by decide)))
      refine pg_iload_n (pc := 23) hC dX5_readPad_23 2 rfl rfl ?_
      refine pg_iload_n (pc := 24) hC dX5_readPad_24 1 rfl rfl ?_
      refine pg_if_eq (pc := 25) hC 66 dX5_readPad_25 (by decide)  (fun c9 => ?_) (fun c9 => ?_)
      · skip
        refine pg_iconst (pc := 66) (v := 0) hC dX5_readPad_66 (by decide) ?_
        refine pg_iadd (pc := 67) (v := nI k) hC dX5_readPad_67 (Int32.add_zero _) ?_
        refine pg_istore_n (pc := 68) (vs' := [(2, .int (nI k)), (0, .ref (x 11 2)), (1, .int off), (3, .int b)]) hC dX5_readPad_68 rfl (by decide) rfl ?_
        have hPO := mPI_off hI hb1 hg2 hlt2 hpl2 hR2 hD2 hN2 (G3 := g2) (z3 := z) (k3 := k) h72 (fun _ _ => rfl) (fun _ => rfl) (by omega) (fun q => absurd (c9.symm.trans q) (by decide))
        refine pg_aload_n (pc := 69) hC dX5_readPad_69 1 rfl rfl ?_
        refine pg_bipush (pc := 70) (v := 44) hC dX5_readPad_70 (by decide) ?_
        refine pg_callVWi (pc := 72) (As := [.int 44]) (rest := []) hC dX5_readPad_72 (cX5_takes_c l hokw2 hch2 (s := s2) h72 hp2 (by omega) hpl 44) (cwV 1 hC.2.2.2.2.1 gX5_readPad_X5_takes rfl rfl rfl (by decide +kernel) ⟨Nat.le_of_ble_eq_true rfl, Nat.le_of_ble_eq_true rfl⟩) (ok_mem hokw2 (by decide)) (ok_Mo hokw2) rfl rfl rfl rfl (Nat.le_of_ble_eq_true rfl) (Nat.zero_le _) (Nat.zero_le _) (fun f3 hokw3 => ?_)
        by_cases c10 : mSees ch s2 pl 44 44 = 0
        · skip
          rw [if_pos c10] at hokw3
          refine pg_top (x' := 0) c10 ?_
          refine pg_istore_n (pc := 75) (vs' := [(3, .int 0), (2, .int (nI k)), (0, .ref (x 11 2)), (1, .int off)]) hC dX5_readPad_75 rfl (by decide) rfl ?_
          refine pg_goto (pc := 76) hC 9 dX5_readPad_76 (by decide) ?_
          refine pg_sub (vs' := [(0, .ref (x 11 2)), (1, .int off), (2, .int (nI k)), (3, .int 0)]) [2, 3, 1, 0] rfl ?_
          exact ih1 (f3, (zu g2 7 0 (nI s2)), z, r2, s2, k, 0) ⟨hokw3, mPO_no hPO (fun q => mSees_neg c10 ⟨q.1, by rw [q.2]; decide⟩)⟩ (by show 2 * (pl - s2) + (if (0 : Int32) = 0 then 0 else 1) < 2 * (pl - s) + (if b = 0 then 0 else 1); rw [hb1, if_pos rfl, if_neg (by decide)]; omega)
        · skip
          rw [if_neg c10] at hokw3
          refine pg_top (x' := 1) (mSees_1 c10) ?_
          have hltc10 := (mSees_pos c10).1
          refine pg_istore_n (pc := 75) (vs' := [(3, .int 1), (2, .int (nI k)), (0, .ref (x 11 2)), (1, .int off)]) hC dX5_readPad_75 rfl (by decide) rfl ?_
          refine pg_goto (pc := 76) hC 9 dX5_readPad_76 (by decide) ?_
          refine pg_sub (vs' := [(0, .ref (x 11 2)), (1, .int off), (2, .int (nI k)), (3, .int 1)]) [2, 3, 1, 0] rfl ?_
          exact ih1 (f3, (zu g2 7 0 (nI (s2 + 1))), z, rT r2 44, s2 + 1, k, 1) ⟨hokw3, mPO_comma hPO (mSees_pos c10).1 (bW_one (mSees_pos c10).2)⟩ (by show 2 * (pl - (s2 + 1)) + (if (1 : Int32) = 0 then 0 else 1) < 2 * (pl - s) + (if b = 0 then 0 else 1); rw [hb1, if_neg (by decide)]; omega)
      · skip
        have ho1 : off = 1 := hoff.resolve_left c9
        have hS2 := mPI_mS hI ho1 hg2
        refine pg_aload_n (pc := 28) hC dX5_readPad_28 0 rfl rfl ?_
        refine pg_aload_n (pc := 29) hC dX5_readPad_29 0 rfl rfl ?_
        refine pgM_geti (pc := 30) (v := nI e) hC dX5_readPad_30 9 (List.mem_of_getElem? (i := 2) rfl) miX5_readPad_X5 hokw2 (by decide) h92 ?_
        refine pg_callVRi (pc := 33) (As := [.int (nI e)]) (rest := [.int (nI k)]) hC dX5_readPad_33 (cX5_isExcuse_c l hokw2 hS2.1 hS2.2.1 (nI e)) (cwV 1 hC.2.2.2.2.1 gX5_readPad_X5_isExcuse rfl rfl rfl (by decide +kernel) ⟨Nat.le_of_ble_eq_true rfl, Nat.le_of_ble_eq_true rfl⟩) (ok_mem hokw2 (by decide)) (ok_Mo hokw2) rfl rfl rfl rfl (Nat.le_of_ble_eq_true rfl) (Nat.zero_le _) (Nat.zero_le _) ?_
        refine pg_if_eq (pc := 36) hC 66 dX5_readPad_36 (by decide)  (fun c11 => ?_) (fun c11 => ?_)
        · skip
          refine pg_iconst (pc := 66) (v := 0) hC dX5_readPad_66 (by decide) ?_
          refine pg_iadd (pc := 67) (v := nI k) hC dX5_readPad_67 (Int32.add_zero _) ?_
          refine pg_istore_n (pc := 68) (vs' := [(2, .int (nI k)), (0, .ref (x 11 2)), (1, .int off), (3, .int b)]) hC dX5_readPad_68 rfl (by decide) rfl ?_
          have hPO := mPI_off hI hb1 hg2 hlt2 hpl2 hR2 hD2 hN2 (G3 := g2) (z3 := z2) (k3 := k) h72 (fun _ _ => rfl) (fun _ => rfl) (by omega) (fun _ => ⟨hS2, ((ofz e1 e2 hp10 he12).1 c11).1.symm, by rw [((ofz e1 e2 hp10 he12).1 c11).2, Int32.add_zero]⟩)
          refine pg_aload_n (pc := 69) hC dX5_readPad_69 1 rfl rfl ?_
          refine pg_bipush (pc := 70) (v := 44) hC dX5_readPad_70 (by decide) ?_
          refine pg_callVWi (pc := 72) (As := [.int 44]) (rest := []) hC dX5_readPad_72 (cX5_takes_c l hokw2 hch2 (s := s2) h72 hp2 (by omega) hpl 44) (cwV 1 hC.2.2.2.2.1 gX5_readPad_X5_takes rfl rfl rfl (by decide +kernel) ⟨Nat.le_of_ble_eq_true rfl, Nat.le_of_ble_eq_true rfl⟩) (ok_mem hokw2 (by decide)) (ok_Mo hokw2) rfl rfl rfl rfl (Nat.le_of_ble_eq_true rfl) (Nat.zero_le _) (Nat.zero_le _) (fun f4 hokw4 => ?_)
          by_cases c12 : mSees ch s2 pl 44 44 = 0
          · skip
            rw [if_pos c12] at hokw4
            refine pg_top (x' := 0) c12 ?_
            refine pg_istore_n (pc := 75) (vs' := [(3, .int 0), (2, .int (nI k)), (0, .ref (x 11 2)), (1, .int off)]) hC dX5_readPad_75 rfl (by decide) rfl ?_
            refine pg_goto (pc := 76) hC 9 dX5_readPad_76 (by decide) ?_
            refine pg_sub (vs' := [(0, .ref (x 11 2)), (1, .int off), (2, .int (nI k)), (3, .int 0)]) [2, 3, 1, 0] rfl ?_
            exact ih1 (f4, (zu g2 7 0 (nI s2)), z2, r2, s2, k, 0) ⟨hokw4, mPO_no hPO (fun q => mSees_neg c12 ⟨q.1, by rw [q.2]; decide⟩)⟩ (by show 2 * (pl - s2) + (if (0 : Int32) = 0 then 0 else 1) < 2 * (pl - s) + (if b = 0 then 0 else 1); rw [hb1, if_pos rfl, if_neg (by decide)]; omega)
          · skip
            rw [if_neg c12] at hokw4
            refine pg_top (x' := 1) (mSees_1 c12) ?_
            have hltc12 := (mSees_pos c12).1
            refine pg_istore_n (pc := 75) (vs' := [(3, .int 1), (2, .int (nI k)), (0, .ref (x 11 2)), (1, .int off)]) hC dX5_readPad_75 rfl (by decide) rfl ?_
            refine pg_goto (pc := 76) hC 9 dX5_readPad_76 (by decide) ?_
            refine pg_sub (vs' := [(0, .ref (x 11 2)), (1, .int off), (2, .int (nI k)), (3, .int 1)]) [2, 3, 1, 0] rfl ?_
            exact ih1 (f4, (zu g2 7 0 (nI (s2 + 1))), z2, rT r2 44, s2 + 1, k, 1) ⟨hokw4, mPO_comma hPO (mSees_pos c12).1 (bW_one (mSees_pos c12).2)⟩ (by show 2 * (pl - (s2 + 1)) + (if (1 : Int32) = 0 then 0 else 1) < 2 * (pl - s) + (if b = 0 then 0 else 1); rw [hb1, if_neg (by decide)]; omega)
        · skip
          have hn12 := hS2.2.1.n12
          have hen : e < n := by
            obtain ⟨e', he', ee⟩ := bH_nat hS2.2.1.n (by omega) c11
            rwa [(nI_eq (by omega) (by omega)).mp ee]
          refine pg_aload_n (pc := 39) hC dX5_readPad_39 0 rfl rfl ?_
          refine pg_aload_n (pc := 40) hC dX5_readPad_40 0 rfl rfl ?_
          refine pgM_geti (pc := 41) (v := nI p) hC dX5_readPad_41 8 (List.mem_of_getElem? (i := 3) rfl) miX5_readPad_X5 hokw2 (by decide) h82 ?_
          refine pg_aload_n (pc := 44) hC dX5_readPad_44 0 rfl rfl ?_
          refine pgM_geti (pc := 45) (v := nI e) hC dX5_readPad_45 9 (List.mem_of_getElem? (i := 2) rfl) miX5_readPad_X5 hokw2 (by decide) h92 ?_
          refine pg_aload_n (pc := 48) hC dX5_readPad_48 0 rfl rfl ?_
          refine pgM_geti (pc := 49) (v := r2 4 0) hC dX5_readPad_49 11 (List.mem_of_getElem? (i := 4) rfl) miX5_readPad_X5 hokw2 (by decide) h112 ?_
          refine pg_aload_n (pc := 52) hC dX5_readPad_52 0 rfl rfl ?_
          refine pgM_geti (pc := 53) (v := r2 3 0) hC dX5_readPad_53 10 (List.mem_of_getElem? (i := 5) rfl) miX5_readPad_X5 hokw2 (by decide) h102 ?_
          refine pg_callVEi (pc := 56) (As := [.int (nI p), .int (nI e), .int (r2 4 0), .int (r2 3 0)]) (rest := [.int (nI k)]) hC dX5_readPad_56 (cX5_offerNow_c l hokw2 hS2 (p) (e) (by omega) (by omega) (r2 4 0) e4 (r2 3 0)) (cwV 4 hC.2.2.2.2.1 gX5_readPad_X5_offerNow rfl rfl rfl (by decide +kernel) ⟨Nat.le_of_ble_eq_true rfl, Nat.le_of_ble_eq_true rfl⟩) (ok_mem hokw2 (by decide)) (ok_Mo hokw2) rfl rfl rfl rfl (Nat.le_of_ble_eq_true rfl) (Nat.zero_le _) (Nat.zero_le _) (fun r13 f5 Z14 hokw5 hph15 => ?_)
          obtain ⟨hv19, g16, rfl, hS17, hO18⟩ := hph15
          refine pg_if_ne (pc := 59) hC 66 dX5_readPad_59 (by decide)  (fun c20 => ?_) (fun c20 => ?_)
          · skip
            have hch3 : g16 5 = ch := (hO18 5 (by decide)).trans hch2
            have hp3 : g16 6 0 = nI pl := (congrFun (hO18 6 (by decide)) 0).trans hp2
            have h73 : g16 7 0 = nI s2 := (congrFun (hO18 7 (by decide)) 0).trans h72
            refine pg_iconst (pc := 66) (v := 0) hC dX5_readPad_66 (by decide) ?_
            refine pg_iadd (pc := 67) (v := nI k) hC dX5_readPad_67 (Int32.add_zero _) ?_
            refine pg_istore_n (pc := 68) (vs' := [(2, .int (nI k)), (0, .ref (x 11 2)), (1, .int off), (3, .int b)]) hC dX5_readPad_68 rfl (by decide) rfl ?_
            have hPO := mPI_off hI hb1 hg2 hlt2 hpl2 hR2 hD2 hN2 (G3 := g16) (z3 := sOffer z2 p e (r2 4 0) (r2 3 0)) (k3 := k) h73 hO18 (fun q => absurd (q.symm.trans ho1) (by decide)) (by omega) (fun _ => ⟨hS17, ((ofz e1 e2 hp10 he12).2 c11).1.symm, by rw [((ofz e1 e2 hp10 he12).2 c11).2, if_neg (by rw [← hv19]; exact c20), Int32.add_zero]⟩)
            refine pg_aload_n (pc := 69) hC dX5_readPad_69 1 rfl rfl ?_
            refine pg_bipush (pc := 70) (v := 44) hC dX5_readPad_70 (by decide) ?_
            refine pg_callVWi (pc := 72) (As := [.int 44]) (rest := []) hC dX5_readPad_72 (cX5_takes_c l hokw5 hch3 (s := s2) h73 hp3 (by omega) hpl 44) (cwV 1 hC.2.2.2.2.1 gX5_readPad_X5_takes rfl rfl rfl (by decide +kernel) ⟨Nat.le_of_ble_eq_true rfl, Nat.le_of_ble_eq_true rfl⟩) (ok_mem hokw5 (by decide)) (ok_Mo hokw5) rfl rfl rfl rfl (Nat.le_of_ble_eq_true rfl) (Nat.zero_le _) (Nat.zero_le _) (fun f6 hokw6 => ?_)
            by_cases c21 : mSees ch s2 pl 44 44 = 0
            · skip
              rw [if_pos c21] at hokw6
              refine pg_top (x' := 0) c21 ?_
              refine pg_istore_n (pc := 75) (vs' := [(3, .int 0), (2, .int (nI k)), (0, .ref (x 11 2)), (1, .int off)]) hC dX5_readPad_75 rfl (by decide) rfl ?_
              refine pg_goto (pc := 76) hC 9 dX5_readPad_76 (by decide) ?_
              refine pg_sub (vs' := [(0, .ref (x 11 2)), (1, .int off), (2, .int (nI k)), (3, .int 0)]) [2, 3, 1, 0] rfl ?_
              exact ih1 (f6, (zu g16 7 0 (nI s2)), sOffer z2 p e (r2 4 0) (r2 3 0), r2, s2, k, 0) ⟨hokw6, mPO_no hPO (fun q => mSees_neg c21 ⟨q.1, by rw [q.2]; decide⟩)⟩ (by show 2 * (pl - s2) + (if (0 : Int32) = 0 then 0 else 1) < 2 * (pl - s) + (if b = 0 then 0 else 1); rw [hb1, if_pos rfl, if_neg (by decide)]; omega)
            · skip
              rw [if_neg c21] at hokw6
              refine pg_top (x' := 1) (mSees_1 c21) ?_
              have hltc21 := (mSees_pos c21).1
              refine pg_istore_n (pc := 75) (vs' := [(3, .int 1), (2, .int (nI k)), (0, .ref (x 11 2)), (1, .int off)]) hC dX5_readPad_75 rfl (by decide) rfl ?_
              refine pg_goto (pc := 76) hC 9 dX5_readPad_76 (by decide) ?_
              refine pg_sub (vs' := [(0, .ref (x 11 2)), (1, .int off), (2, .int (nI k)), (3, .int 1)]) [2, 3, 1, 0] rfl ?_
              exact ih1 (f6, (zu g16 7 0 (nI (s2 + 1))), sOffer z2 p e (r2 4 0) (r2 3 0), rT r2 44, s2 + 1, k, 1) ⟨hokw6, mPO_comma hPO (mSees_pos c21).1 (bW_one (mSees_pos c21).2)⟩ (by show 2 * (pl - (s2 + 1)) + (if (1 : Int32) = 0 then 0 else 1) < 2 * (pl - s) + (if b = 0 then 0 else 1); rw [hb1, if_neg (by decide)]; omega)
          · skip
            have hch3 : g16 5 = ch := (hO18 5 (by decide)).trans hch2
            have hp3 : g16 6 0 = nI pl := (congrFun (hO18 6 (by decide)) 0).trans hp2
            have h73 : g16 7 0 = nI s2 := (congrFun (hO18 7 (by decide)) 0).trans h72
            refine pg_iconst (pc := 62) (v := 1) hC dX5_readPad_62 (by decide) ?_
            refine pg_goto (pc := 63) hC 67 dX5_readPad_63 (by decide) ?_
            refine pg_iadd (pc := 67) (v := nI (k + 1)) hC dX5_readPad_67 (nI_add k 1) ?_
            refine pg_istore_n (pc := 68) (vs' := [(2, .int (nI (k + 1))), (0, .ref (x 11 2)), (1, .int off), (3, .int b)]) hC dX5_readPad_68 rfl (by decide) rfl ?_
            have hPO := mPI_off hI hb1 hg2 hlt2 hpl2 hR2 hD2 hN2 (G3 := g16) (z3 := sOffer z2 p e (r2 4 0) (r2 3 0)) (k3 := k + 1) h73 hO18 (fun q => absurd (q.symm.trans ho1) (by decide)) (by omega) (fun _ => ⟨hS17, ((ofz e1 e2 hp10 he12).2 c11).1.symm, by rw [((ofz e1 e2 hp10 he12).2 c11).2, if_pos (by rw [← hv19]; exact c20)]; exact (nI_add k 1).symm⟩)
            refine pg_aload_n (pc := 69) hC dX5_readPad_69 1 rfl rfl ?_
            refine pg_bipush (pc := 70) (v := 44) hC dX5_readPad_70 (by decide) ?_
            refine pg_callVWi (pc := 72) (As := [.int 44]) (rest := []) hC dX5_readPad_72 (cX5_takes_c l hokw5 hch3 (s := s2) h73 hp3 (by omega) hpl 44) (cwV 1 hC.2.2.2.2.1 gX5_readPad_X5_takes rfl rfl rfl (by decide +kernel) ⟨Nat.le_of_ble_eq_true rfl, Nat.le_of_ble_eq_true rfl⟩) (ok_mem hokw5 (by decide)) (ok_Mo hokw5) rfl rfl rfl rfl (Nat.le_of_ble_eq_true rfl) (Nat.zero_le _) (Nat.zero_le _) (fun f7 hokw7 => ?_)
            by_cases c22 : mSees ch s2 pl 44 44 = 0
            · skip
              rw [if_pos c22] at hokw7
              refine pg_top (x' := 0) c22 ?_
              refine pg_istore_n (pc := 75) (vs' := [(3, .int 0), (2, .int (nI (k + 1))), (0, .ref (x 11 2)), (1, .int off)]) hC dX5_readPad_75 rfl (by decide) rfl ?_
              refine pg_goto (pc := 76) hC 9 dX5_readPad_76 (by decide) ?_
              refine pg_sub (vs' := [(0, .ref (x 11 2)), (1, .int off), (2, .int (nI (k + 1))), (3, .int 0)]) [2, 3, 1, 0] rfl ?_
              exact ih1 (f7, (zu g16 7 0 (nI s2)), sOffer z2 p e (r2 4 0) (r2 3 0), r2, s2, k + 1, 0) ⟨hokw7, mPO_no hPO (fun q => mSees_neg c22 ⟨q.1, by rw [q.2]; decide⟩)⟩ (by show 2 * (pl - s2) + (if (0 : Int32) = 0 then 0 else 1) < 2 * (pl - s) + (if b = 0 then 0 else 1); rw [hb1, if_pos rfl, if_neg (by decide)]; omega)
            · skip
              rw [if_neg c22] at hokw7
              refine pg_top (x' := 1) (mSees_1 c22) ?_
              have hltc22 := (mSees_pos c22).1
              refine pg_istore_n (pc := 75) (vs' := [(3, .int 1), (2, .int (nI (k + 1))), (0, .ref (x 11 2)), (1, .int off)]) hC dX5_readPad_75 rfl (by decide) rfl ?_
              refine pg_goto (pc := 76) hC 9 dX5_readPad_76 (by decide) ?_
              refine pg_sub (vs' := [(0, .ref (x 11 2)), (1, .int off), (2, .int (nI (k + 1))), (3, .int 1)]) [2, 3, 1, 0] rfl ?_
              exact ih1 (f7, (zu g16 7 0 (nI (s2 + 1))), sOffer z2 p e (r2 4 0) (r2 3 0), rT r2 44, s2 + 1, k + 1, 1) ⟨hokw7, mPO_comma hPO (mSees_pos c22).1 (bW_one (mSees_pos c22).2)⟩ (by show 2 * (pl - (s2 + 1)) + (if (1 : Int32) = 0 then 0 else 1) < 2 * (pl - s) + (if b = 0 then 0 else 1); rw [hb1, if_neg (by decide)]; omega)
abbrev rmX5_fault : Room := { frames := 7, cells := 0, slots := 0, locals := 164 }
theorem miX5_fault_X5 : ∀ w ∈ wsX50, w ∈ wsX5_fault := fun _ h => List.mem_cons_of_mem _ (List.mem_append_right _ h)
set_option maxHeartbeats 2000000 in
set_option maxRecDepth 20000 in
theorem cX5_fault_c (l : Launch) {κ : pv_Kt} {L : List Nat} {f : Nat → va_E} {x : Nat → Nat → Nat} {Z : Nat → Nat → Nat → Int32} {g : Nat → Nat → Int32} (hok : pv_ok κ x L f (va_up Z 11 g)) {ch : Nat → Int32} (hch : g 5 = ch) {pl : Nat} (hp : g 6 0 = nI pl) (hpl : pl ≤ 60) {r0 : Nat → Nat → Int32} (q0 : r0 0 0 = 0) (q4 : r0 4 0 = -6)  : pv_Mi l κ yX5_fault wsX5_fault rmX5_fault L f [.ref (x 11 2)] 0 0 (pv_Ei κ x L (mE Z (cFlt ch pl 0 r0).1 (fun g2 => ∀ l : Nat, l < 7 → g2 l = g l))) := by
  refine pv_startI (cc := cX5_fault) (maxL := 1) (ret := (some .int)) (by decide) rfl (Nat.le_of_ble_eq_true rfl) (fun A0 P0 E0 S0 M0 a0 B0 T0 C0 hC => ?_)
  refine pg_sub (vs' := [(0, .ref (x 11 2))]) [0] rfl ?_
  refine pg_aload_n (pc := 0) hC dX5_fault_0 0 rfl rfl ?_
  refine pg_iconst (pc := 1) (v := 0) hC dX5_fault_1 (by decide) ?_
  refine pg_callVEi (pc := 2) (As := [.int 0]) (rest := []) hC dX5_fault_2 (cX5_readPad_c l hok hch hp hpl (z := fun _ _ => 0) (n := 0) q0 q4 0 (Or.inl rfl) (fun q => absurd q (by decide))) (cwV 1 hC.2.2.2.2.1 gX5_fault_X5_readPad rfl rfl rfl (by decide +kernel) ⟨Nat.le_of_ble_eq_true rfl, Nat.le_of_ble_eq_true rfl⟩) (ok_mem hok (by decide)) (ok_Mo hok) rfl rfl rfl rfl (Nat.le_of_ble_eq_true rfl) (Nat.zero_le _) (Nat.zero_le _) (fun r1 f1 Z2 hokw1 hph3 => ?_)
  obtain ⟨ga, sga, rfl, h1ga, h0ga, h7ga, hlga, hcga⟩ := hph3
  refine pg_bipush (pc := 5) (v := (-6)) hC dX5_fault_5 (by decide) ?_
  refine pg_icmp_ne (pc := 7) hC 17 dX5_fault_7 (by decide)  (fun c4 => ?_) (fun c4 => ?_)
  · skip
    refine pg_bipush (pc := 17) (v := (-6)) hC dX5_fault_17 (by decide) ?_
    exact pg_iret (pc := 19) hC dX5_fault_19 rfl ⟨rfl, _, hokw1, hcga.elim (fun q => absurd q.1 c4) (fun q => q.2.1.symm), _, rfl, rows0 (h0ga rfl) h1ga⟩
  · skip
    refine pg_aload_n (pc := 10) hC dX5_fault_10 0 rfl rfl ?_
    refine pgM_geti (pc := 11) (v := nI sga) hC dX5_fault_11 7 (List.mem_of_getElem? (i := 1) rfl) miX5_fault_X5 hokw1 (by decide) h7ga ?_
    refine pg_goto (pc := 14) hC 19 dX5_fault_14 (by decide) ?_
    exact pg_iret (pc := 19) hC dX5_fault_19 rfl ⟨rfl, _, hokw1, hcga.elim (fun q => q.2.symm) (fun q => absurd c4 q.1), _, rfl, rows0 (h0ga rfl) h1ga⟩
abbrev rmX5_read : Room := { frames := 7, cells := 0, slots := 0, locals := 164 }
theorem miX5_read_X5 : ∀ w ∈ wsX50, w ∈ wsX5_read := fun _ h => List.mem_cons_of_mem _ (List.mem_append_right _ h)
set_option maxHeartbeats 2000000 in
set_option maxRecDepth 20000 in
theorem cX5_read_c (l : Launch) {κ : pv_Kt} {L : List Nat} {f : Nat → va_E} {x : Nat → Nat → Nat} {Z : Nat → Nat → Nat → Int32} {g : Nat → Nat → Int32} (hok : pv_ok κ x L f (va_up Z 11 g)) {z : Nat → Nat → Int32} {n : Nat} (hS : mS z n (g 0)) (sn : Nat) (hsn : g 2 0 = nI sn) (hsn6 : sn ≤ 6) {ch : Nat → Int32} (hch : g 5 = ch) {pl : Nat} (hp : g 6 0 = nI pl) (hpl : pl ≤ 60) {r0 : Nat → Nat → Int32} (q0 : r0 0 0 = 0) (q4 : r0 4 0 = -6)  : pv_Mi l κ yX5_read wsX5_read rmX5_read L f [.ref (x 11 2)] 0 0 (pv_Ei κ x L (mRead Z g ch pl r0 z n sn)) := by
  refine pv_startI (cc := cX5_read) (maxL := 2) (ret := (some .int)) (by decide) rfl (Nat.le_of_ble_eq_true rfl) (fun A0 P0 E0 S0 M0 a0 B0 T0 C0 hC => ?_)
  refine pg_sub (vs' := [(0, .ref (x 11 2))]) [0] rfl ?_
  refine pg_aload_n (pc := 0) hC dX5_read_0 0 rfl rfl ?_
  refine pg_iconst (pc := 1) (v := 0) hC dX5_read_1 (by decide) ?_
  refine pg_callVEi (pc := 2) (As := [.int 0]) (rest := []) hC dX5_read_2 (cX5_readPad_c l hok hch hp hpl (z := fun _ _ => 0) (n := 0) q0 q4 0 (Or.inl rfl) (fun q => absurd q (by decide))) (cwV 1 hC.2.2.2.2.1 gX5_read_X5_readPad rfl rfl rfl (by decide +kernel) ⟨Nat.le_of_ble_eq_true rfl, Nat.le_of_ble_eq_true rfl⟩) (ok_mem hok (by decide)) (ok_Mo hok) rfl rfl rfl rfl (Nat.le_of_ble_eq_true rfl) (Nat.zero_le _) (Nat.zero_le _) (fun r1 f1 Z2 hokw1 hph3 => ?_)
  obtain ⟨ga, sga, rfl, h1ga, h0ga, h7ga, hlga, hcga⟩ := hph3
  refine pg_bipush (pc := 5) (v := (-6)) hC dX5_read_5 (by decide) ?_
  refine pg_icmp_ne (pc := 7) hC 13 dX5_read_7 (by decide)  (fun c4 => ?_) (fun c4 => ?_)
  · skip
    have hE : (cFlt ch pl 0 r0).1 = -6 := hcga.elim (fun q => absurd q.1 c4) (fun q => q.2.1)
    have hga := rows0 (h0ga rfl) h1ga
    have hsna : ga 2 0 = nI sn := (congrFun (hga 2 (by decide)) 0).trans hsn
    refine pg_aload_n (pc := 13) hC dX5_read_13 0 rfl rfl ?_
    refine pg_callVWv (pc := 14) (As := []) (rest := []) hC dX5_read_14 (cX5_record_c l hokw1 sn hsna hsn6) (cwV 0 hC.2.2.2.2.1 gX5_read_X5_record rfl rfl rfl (by decide +kernel) ⟨Nat.le_of_ble_eq_true rfl, Nat.le_of_ble_eq_true rfl⟩) (ok_mem hokw1 (by decide)) (ok_Mo hokw1) rfl rfl rfl rfl (Nat.le_of_ble_eq_true rfl) (Nat.zero_le _) (Nat.zero_le _) (fun f2 hokw2 => ?_)
    have hSr : (1 : Int32) = 1 → mS z n (mRec ga sn 0) := fun _ => by rw [mRec_0, hga 0 (by decide)]; exact hS
    have hchr : mRec ga sn 5 = ch := (mRec_o ga sn (by decide) (by decide)).trans ((hga 5 (by decide)).trans hch)
    have hpr : mRec ga sn 6 0 = nI pl := (congrFun (mRec_o ga sn (by decide) (by decide)) 0).trans ((congrFun (hga 6 (by decide)) 0).trans hp)
    refine pg_aload_n (pc := 17) hC dX5_read_17 0 rfl rfl ?_
    refine pg_iconst (pc := 18) (v := 1) hC dX5_read_18 (by decide) ?_
    refine pg_callVEi (pc := 19) (As := [.int 1]) (rest := []) hC dX5_read_19 (cX5_readPad_c l hokw2 hchr hpr hpl (z := z) (n := n) q0 q4 1 (Or.inr rfl) hSr) (cwV 1 hC.2.2.2.2.1 gX5_read_X5_readPad rfl rfl rfl (by decide +kernel) ⟨Nat.le_of_ble_eq_true rfl, Nat.le_of_ble_eq_true rfl⟩) (ok_mem hokw2 (by decide)) (ok_Mo hokw2) rfl rfl rfl rfl (Nat.le_of_ble_eq_true rfl) (Nat.zero_le _) (Nat.zero_le _) (fun r5 f3 Z6 hokw3 hph7 => ?_)
    obtain ⟨gb, sgb, rfl, h1gb, h0gb, h7gb, hlgb, hcgb⟩ := hph7
    have hB := hcgb.resolve_left (fun q => nI_m6 (show sgb < 2 ^ 31 by omega) (q.2.symm.trans hE))
    refine pg_istore_n (pc := 22) (vs' := [(1, .int r5), (0, .ref (x 11 2))]) hC dX5_read_22 rfl (by decide) rfl ?_
    refine pg_aload_n (pc := 23) hC dX5_read_23 1 rfl rfl ?_
    refine pg_iconst (pc := 24) (v := 0) hC dX5_read_24 (by decide) ?_
    refine pgM_puti (pc := 25) hC dX5_read_25 6 (List.mem_of_getElem? (i := 1) rfl) miX5_read_X5 hokw3 (by decide) (fun f4 hokw4 => ?_)
    refine pg_iload_n (pc := 28) hC dX5_read_28 0 rfl rfl ?_
    exact pg_iret (pc := 29) hC dX5_read_29 rfl ⟨rfl, _, hokw4, _, rfl, Or.inr ⟨hE, (hB.2.2 rfl).2, by rw [zu_o (by decide)]; exact (hB.2.2 rfl).1, zu_ee, fun l hl1 hl6 => (zu_o (by omega)).trans ((h1gb l hl1 (by omega)).trans (mRec_rows hga sn l (by omega)))⟩⟩
  · skip
    refine pg_bipush (pc := 10) (v := (-3)) hC dX5_read_10 (by decide) ?_
    exact pg_iret (pc := 12) hC dX5_read_12 rfl ⟨rfl, _, hokw1, _, rfl, Or.inl ⟨hcga.elim (fun q => by rw [q.2]; exact nI_m6 (by omega)) (fun q => absurd c4 q.1), rfl, rows0 (h0ga rfl) h1ga⟩⟩
