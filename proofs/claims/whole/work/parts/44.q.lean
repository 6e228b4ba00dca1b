abbrev rmX5_wipe : Room := { frames := 0, cells := 0, slots := 0, locals := 0 }
theorem miX5_wipe_X5 : ∀ w ∈ wsX50, w ∈ wsX5_wipe := fun _ h => List.mem_cons_of_mem _ (List.mem_append_right _ h)
set_option maxHeartbeats 2000000 in
set_option maxRecDepth 20000 in
theorem cX5_wipe_c (l : Launch) {κ : pv_Kt} {L : List Nat} {f : Nat → va_E} {x : Nat → Nat → Nat} {Z : Nat → Nat → Nat → Int32} {g : Nat → Nat → Int32} (hok : pv_ok κ x L f (va_up Z 11 g))  : pv_Mi l κ yX5_wipe wsX5_wipe rmX5_wipe L f [.ref (x 11 2)] 0 0 (pv_Wi κ x L (va_up Z 11 (zu g 6 0 0)) (g 6 0)) := by
  refine pv_startI (cc := cX5_wipe) (maxL := 2) (ret := (some .int)) (by decide) rfl (Nat.le_of_ble_eq_true rfl) (fun A0 P0 E0 S0 M0 a0 B0 T0 C0 hC => ?_)
  refine pg_sub (vs' := [(0, .ref (x 11 2))]) [0] rfl ?_
  refine pg_aload_n (pc := 0) hC dX5_wipe_0 0 rfl rfl ?_
  refine pgM_geti (pc := 1) (v := g 6 0) hC dX5_wipe_1 6 (List.mem_of_getElem? (i := 1) rfl) miX5_wipe_X5 hok (by decide) rfl ?_
  refine pg_istore_n (pc := 4) (vs' := [(1, .int (g 6 0)), (0, .ref (x 11 2))]) hC dX5_wipe_4 rfl (by decide) rfl ?_
  refine pg_aload_n (pc := 5) hC dX5_wipe_5 1 rfl rfl ?_
  refine pg_iconst (pc := 6) (v := 0) hC dX5_wipe_6 (by decide) ?_
  refine pgM_puti (pc := 7) hC dX5_wipe_7 6 (List.mem_of_getElem? (i := 1) rfl) miX5_wipe_X5 hok (by decide) (fun f1 hokw1 => ?_)
  refine pg_iload_n (pc := 10) hC dX5_wipe_10 0 rfl rfl ?_
  exact pg_iret (pc := 11) hC dX5_wipe_11 rfl ⟨rfl, rfl, hokw1⟩
abbrev rmX5_put : Room := { frames := 1, cells := 0, slots := 0, locals := 22 }
theorem miX5_put_X5 : ∀ w ∈ wsX50, w ∈ wsX5_put := fun _ h => List.mem_cons_of_mem _ (List.mem_append_right _ h)
set_option maxHeartbeats 2000000 in
set_option maxRecDepth 20000 in
theorem cX5_put_c (l : Launch) {κ : pv_Kt} {L : List Nat} {f : Nat → va_E} {x : Nat → Nat → Nat} {Z : Nat → Nat → Nat → Int32} {g : Nat → Nat → Int32} (hok : pv_ok κ x L f (va_up Z 11 g)) (pl : Nat) (hpl : g 6 0 = nI pl) (hpl60 : pl ≤ 60) (X : Int64) : pv_Mi l κ yX5_put wsX5_put rmX5_put L f [.ref (x 11 2), .long (X)] 0 0 (pv_Wi κ x L (va_up Z 11 (mPut X g pl)) (tPut X pl)) := by
  refine pv_startI (cc := cX5_put) (maxL := 7) (ret := (some .int)) (by decide) rfl (Nat.le_of_ble_eq_true rfl) (fun A0 P0 E0 S0 M0 a0 B0 T0 C0 hC => ?_)
  refine pg_sub (vs' := [(0, .ref (x 11 2)), (1, .long (X))]) [0, 1] rfl ?_
  refine pg_lload_n (pc := 0) hC dX5_put_0 1 rfl rfl ?_
  refine pg_lstore_n (pc := 1) (vs' := [(3, .long (X)), (0, .ref (x 11 2)), (1, .long (X))]) hC dX5_put_1 rfl (by decide) rfl ?_
  refine pg_iconst (pc := 2) (v := 0) hC dX5_put_2 (by decide) ?_
  refine pg_istore (pc := 3) (vs' := [(5, .int 0), (3, .long (X)), (0, .ref (x 11 2)), (1, .long (X))]) hC dX5_put_3 (by decide) rfl ?_
  refine pg_sub (vs' := [(0, .ref (x 11 2)), (1, .long (X)), (3, .long (X)), (5, .int 0)]) [2, 3, 1, 0] rfl ?_
  refine pg_loop (pc := 5) (σ := Nat × Int64) (I := fun q => match q with | (i, y) => i ≤ 8 ∧ y.toUInt64.toNat = X.toUInt64.toNat / 2 ^ (8 * i) ∧ sCh X (8 - i) i = sCh X 8 0) (μ := fun q => match q with | (i, y) => 8 - i) (VS := fun q => match q with | (i, y) => [(0, .ref (x 11 2)), (1, .long (X)), (3, .long (y)), (5, .int (nI i))]) (FF := fun q => match q with | (i, y) => f) ?_ (0, X) ⟨by decide, by simp, rfl⟩
  intro q hI ih1
  obtain ⟨i, y⟩ := q
  dsimp only at hI ih1 ⊢
  have hI2 := hI
  obtain ⟨hi8, hY, hF⟩ := hI
  refine pg_lload_n (pc := 5) hC dX5_put_5 2 rfl rfl ?_
  refine pg_lconst (pc := 6) (v := 0) hC dX5_put_6 (by decide) ?_
  refine pg_lcmp (pc := 7) hC dX5_put_7 ?_
  refine pg_if_eq (pc := 8) hC 48 dX5_put_8 (by decide)  (fun c2 => ?_) (fun c2 => ?_)
  · skip
    have hN : sCh X 8 0 = i := hF.symm.trans (sCh_stop (hY.symm.trans ((lcmp0 y).mp c2)) _)
    refine pg_iload (pc := 48) hC dX5_put_48 3 rfl ?_
    refine pg_if_ne (pc := 50) hC 56 dX5_put_50 (by decide)  (fun c3 => ?_) (fun c3 => ?_)
    · skip
      have hi1 : 1 ≤ i := by rcases Nat.eq_zero_or_pos i with q | q; (exact absurd (by rw [q]; rfl) c3); exact q
      have h0 : ¬ sCh X 8 0 = 0 := by omega
      refine pg_aload_n (pc := 56) hC dX5_put_56 0 rfl rfl ?_
      refine pgM_geti (pc := 57) (v := nI pl) hC dX5_put_57 6 (List.mem_of_getElem? (i := 2) rfl) miX5_put_X5 hok (by decide) hpl ?_
      refine pg_iload (pc := 60) hC dX5_put_60 3 rfl ?_
      refine pg_iadd (pc := 62) (v := nI (pl + i)) hC dX5_put_62 (nI_add (pl) (i)) ?_
      refine pg_bipush (pc := 63) (v := 60) hC dX5_put_63 (by decide) ?_
      refine pg_icmp_leN (pc := 65) hC 71 dX5_put_65 (by decide) (pl + i) (60) rfl rfl (by omega) (by omega) (fun c4 => ?_) (fun c4 => ?_)
      · skip
        have h60 : pl + sCh X 8 0 ≤ 60 := by omega
        refine pg_iload (pc := 71) hC dX5_put_71 3 rfl ?_
        refine pg_iconst (pc := 73) (v := 1) hC dX5_put_73 (by decide) ?_
        refine pg_isub (pc := 74) (v := nI i - 1) hC dX5_put_74 rfl ?_
        refine pg_istore (pc := 75) (vs' := [(6, .int (nI i - 1)), (0, .ref (x 11 2)), (1, .long (X)), (3, .long (y)), (5, .int (nI i))]) hC dX5_put_75 (by decide) rfl ?_
        refine pg_sub (vs' := [(0, .ref (x 11 2)), (1, .long (X)), (3, .long (y)), (5, .int (nI i)), (6, .int (nI i - 1))]) [1, 2, 3, 4, 0] rfl ?_
        refine pg_loop (pc := 77) (σ := Nat × Nat × (Nat → va_E) × (Nat → Nat → Int32)) (I := fun q => match q with | (k, m, f1, z1) => k ≤ 8 ∧ m + k = pl + sCh X 8 0 ∧ z1 6 0 = nI m ∧ pv_ok κ x L f1 (va_up Z 11 z1) ∧ mApp X z1 m k = mApp X g pl (sCh X 8 0)) (μ := fun q => match q with | (k, m, f1, z1) => k) (VS := fun q => match q with | (k, m, f1, z1) => [(0, .ref (x 11 2)), (1, .long (X)), (3, .long (y)), (5, .int (nI i)), (6, .int (nI k - 1))]) (FF := fun q => match q with | (k, m, f1, z1) => f1) ?_ (i, pl, f, g) ⟨by omega, by rw [hN], hpl, hok, by rw [hN]⟩
        intro q hI ih5
        obtain ⟨k, m, f1, z1⟩ := q
        dsimp only at hI ih5 ⊢
        have hI2 := hI
        obtain ⟨hk8, hnk, hn1, hok1, hE⟩ := hI
        refine pg_iload (pc := 77) hC dX5_put_77 4 rfl ?_
        refine pg_if_lt (pc := 79) hC 119 dX5_put_79 (by decide)  (fun c6 => ?_) (fun c6 => ?_)
        · skip
          obtain rfl : k = 0 := by rcases k with _ | j; rfl; exact absurd c6 (by rw [nI_pred]; exact nI_pos (by omega))
          refine pg_aload_n (pc := 119) hC dX5_put_119 0 rfl rfl ?_
          refine pgM_geti (pc := 120) (v := nI m) hC dX5_put_120 6 (List.mem_of_getElem? (i := 2) rfl) miX5_put_X5 hok1 (by decide) hn1 ?_
          exact pg_iret (pc := 123) hC dX5_put_123 rfl ⟨(by unfold tPut; rw [if_neg h0, if_pos h60, show m = pl + sCh X 8 0 by omega]), rfl, (by unfold mPut; rw [if_neg h0, if_pos h60, ← hE]; exact hok1)⟩
        · skip
          obtain ⟨j, rfl⟩ : ∃ j, k = j + 1 := by rcases k with _ | j; (exact absurd (show nI 0 - 1 < 0 by decide) c6); exact ⟨j, rfl⟩
          refine pg_vs (vs' := [(0, .ref (x 11 2)), (1, .long (X)), (3, .long (y)), (5, .int (nI i)), (6, .int (nI j))]) (by rw [nI_pred]) ?_
          refine pg_aload_n (pc := 82) hC dX5_put_82 0 rfl rfl ?_
          refine pgM_geta (pc := 83) hC dX5_put_83 5 (List.mem_of_getElem? (i := 3) rfl) miX5_put_X5 hok1 (by decide) ?_
          refine pg_aload_n (pc := 86) hC dX5_put_86 0 rfl rfl ?_
          refine pgM_geti (pc := 87) (v := nI m) hC dX5_put_87 6 (List.mem_of_getElem? (i := 2) rfl) miX5_put_X5 hok1 (by decide) hn1 ?_
          refine pg_lload_n (pc := 90) hC dX5_put_90 1 rfl rfl ?_
          refine pg_bipush (pc := 91) (v := 8) hC dX5_put_91 (by decide) ?_
          refine pg_iload (pc := 93) hC dX5_put_93 4 rfl ?_
          refine pg_imul (pc := 95) (v := nI (8 * j)) hC dX5_put_95 (pk_mul (8) (j)) ?_
          refine pg_lushr (pc := 96) (v := (X.toUInt64 >>> ((nI (8 * j) : Int32).toInt64.toUInt64 &&& Int64.toUInt64 63)).toInt64) hC dX5_put_96 rfl ?_
          refine pg_ldc2 (pc := 97) (v := 255) hC dX5_put_97 (List.mem_of_getElem? (i := 1) rfl) ?_
          refine pg_land (pc := 100) (v := ((X.toUInt64 >>> ((nI (8 * j) : Int32).toInt64.toUInt64 &&& Int64.toUInt64 63)).toInt64) &&& 255) hC dX5_put_100 rfl ?_
          refine pg_l2i (pc := 101) (v := nI (kC X j)) hC dX5_put_101 (kC_at2 X (by omega)) ?_
          refine pgM_iast (pc := 102) hC dX5_put_102 5 (m) hok1 (by decide) rfl (show m < 60 by omega) (fun f1 hokw1 => ?_)
          refine pg_aload_n (pc := 103) hC dX5_put_103 0 rfl rfl ?_
          refine pg_dup (pc := 104) hC dX5_put_104 rfl ?_
          refine pgM_geti (pc := 105) (v := nI m) hC dX5_put_105 6 (List.mem_of_getElem? (i := 2) rfl) miX5_put_X5 hokw1 (by decide) hn1 ?_
          refine pg_iconst (pc := 108) (v := 1) hC dX5_put_108 (by decide) ?_
          refine pg_iadd (pc := 109) (v := nI (m + 1)) hC dX5_put_109 (nI_add (m) (1)) ?_
          refine pgM_puti (pc := 110) hC dX5_put_110 6 (List.mem_of_getElem? (i := 2) rfl) miX5_put_X5 hokw1 (by decide) (fun f2 hokw2 => ?_)
          refine pg_iinc (pc := 113) (v := nI j - 1) (vs' := [(6, .int (nI j - 1)), (0, .ref (x 11 2)), (1, .long (X)), (3, .long (y)), (5, .int (nI i))]) hC dX5_put_113 4 rfl (i_dec _) (by decide) rfl ?_
          refine pg_goto (pc := 116) hC 77 dX5_put_116 (by decide) ?_
          refine pg_sub (vs' := [(0, .ref (x 11 2)), (1, .long (X)), (3, .long (y)), (5, .int (nI i)), (6, .int (nI j - 1))]) [1, 2, 3, 4, 0] rfl ?_
          exact ih5 (j, m + 1, f2, (zu (zu z1 5 m (nI (kC X j))) 6 0 (nI (m + 1)))) ⟨(show j ≤ 8 by omega), (show m + 1 + j = pl + sCh X 8 0 by omega), rfl, hokw2, hE⟩ (by omega)
      · skip
        have h60 : ¬ pl + sCh X 8 0 ≤ 60 := by omega
        refine pg_bipush (pc := 68) (v := (-4)) hC dX5_put_68 (by decide) ?_
        exact pg_iret (pc := 70) hC dX5_put_70 rfl ⟨(by unfold tPut; rw [if_neg h0, if_neg h60]), rfl, (by unfold mPut; rw [if_neg h0, if_neg h60]; exact hok)⟩
    · skip
      have h0 : sCh X 8 0 = 0 := by have q := (nI_eq (a := i) (b := 0) (by omega) (by decide)).mp c3; omega
      refine pg_bipush (pc := 53) (v := (-2)) hC dX5_put_53 (by decide) ?_
      exact pg_iret (pc := 55) hC dX5_put_55 rfl ⟨(by unfold tPut; rw [if_pos h0]), rfl, (by unfold mPut; rw [if_pos h0]; exact hok)⟩
  · skip
    refine pg_iload (pc := 11) hC dX5_put_11 3 rfl ?_
    refine pg_bipush (pc := 13) (v := 8) hC dX5_put_13 (by decide) ?_
    refine pg_icmp_geN (pc := 15) hC 48 dX5_put_15 (by decide) (i) (8) rfl rfl (by omega) (by omega) (fun c7 => ?_) (fun c7 => ?_)
    · skip
      have hN : sCh X 8 0 = i := by rw [← hF, show i = 8 by omega]; rfl
      refine pg_iload (pc := 48) hC dX5_put_48 3 rfl ?_
      refine pg_if_ne (pc := 50) hC 56 dX5_put_50 (by decide)  (fun c8 => ?_) (fun c8 => ?_)
      · skip
        have hi1 : 1 ≤ i := by rcases Nat.eq_zero_or_pos i with q | q; (exact absurd (by rw [q]; rfl) c8); exact q
        have h0 : ¬ sCh X 8 0 = 0 := by omega
        refine pg_aload_n (pc := 56) hC dX5_put_56 0 rfl rfl ?_
        refine pgM_geti (pc := 57) (v := nI pl) hC dX5_put_57 6 (List.mem_of_getElem? (i := 2) rfl) miX5_put_X5 hok (by decide) hpl ?_
        refine pg_iload (pc := 60) hC dX5_put_60 3 rfl ?_
        refine pg_iadd (pc := 62) (v := nI (pl + i)) hC dX5_put_62 (nI_add (pl) (i)) ?_
        refine pg_bipush (pc := 63) (v := 60) hC dX5_put_63 (by decide) ?_
        refine pg_icmp_leN (pc := 65) hC 71 dX5_put_65 (by decide) (pl + i) (60) rfl rfl (by omega) (by omega) (fun c9 => ?_) (fun c9 => ?_)
        · skip
          have h60 : pl + sCh X 8 0 ≤ 60 := by omega
          refine pg_iload (pc := 71) hC dX5_put_71 3 rfl ?_
          refine pg_iconst (pc := 73) (v := 1) hC dX5_put_73 (by decide) ?_
          refine pg_isub (pc := 74) (v := nI i - 1) hC dX5_put_74 rfl ?_
          refine pg_istore (pc := 75) (vs' := [(6, .int (nI i - 1)), (0, .ref (x 11 2)), (1, .long (X)), (3, .long (y)), (5, .int (nI i))]) hC dX5_put_75 (by decide) rfl ?_
          refine pg_sub (vs' := [(0, .ref (x 11 2)), (1, .long (X)), (3, .long (y)), (5, .int (nI i)), (6, .int (nI i - 1))]) [1, 2, 3, 4, 0] rfl ?_
          refine pg_loop (pc := 77) (σ := Nat × Nat × (Nat → va_E) × (Nat → Nat → Int32)) (I := fun q => match q with | (k, m, f1, z1) => k ≤ 8 ∧ m + k = pl + sCh X 8 0 ∧ z1 6 0 = nI m ∧ pv_ok κ x L f1 (va_up Z 11 z1) ∧ mApp X z1 m k = mApp X g pl (sCh X 8 0)) (μ := fun q => match q with | (k, m, f1, z1) => k) (VS := fun q => match q with | (k, m, f1, z1) => [(0, .ref (x 11 2)), (1, .long (X)), (3, .long (y)), (5, .int (nI i)), (6, .int (nI k - 1))]) (FF := fun q => match q with | (k, m, f1, z1) => f1) ?_ (i, pl, f, g) ⟨by omega, by rw [hN], hpl, hok, by rw [hN]⟩
          intro q hI ih10
          obtain ⟨k, m, f1, z1⟩ := q
          dsimp only at hI ih10 ⊢
          have hI2 := hI
          obtain ⟨hk8, hnk, hn1, hok1, hE⟩ := hI
          refine pg_iload (pc := 77) hC dX5_put_77 4 rfl ?_
          refine pg_if_lt (pc := 79) hC 119 dX5_put_79 (by decide)  (fun c11 => ?_) (fun c11 => ?_)
          · skip
            obtain rfl : k = 0 := by rcases k with _ | j; rfl; exact absurd c11 (by rw [nI_pred]; exact nI_pos (by omega))
            refine pg_aload_n (pc := 119) hC dX5_put_119 0 rfl rfl ?_
            refine pgM_geti (pc := 120) (v := nI m) hC dX5_put_120 6 (List.mem_of_getElem? (i := 2) rfl) miX5_put_X5 hok1 (by decide) hn1 ?_
            exact pg_iret (pc := 123) hC dX5_put_123 rfl ⟨(by unfold tPut; rw [if_neg h0, if_pos h60, show m = pl + sCh X 8 0 by omega]), rfl, (by unfold mPut; rw [if_neg h0, if_pos h60, ← hE]; exact hok1)⟩
          · skip
            obtain ⟨j, rfl⟩ : ∃ j, k = j + 1 := by rcases k with _ | j; (exact absurd (show nI 0 - 1 < 0 by decide) c11); exact ⟨j, rfl⟩
            refine pg_vs (vs' := [(0, .ref (x 11 2)), (1, .long (X)), (3, .long (y)), (5, .int (nI i)), (6, .int (nI j))]) (by rw [nI_pred]) ?_
            refine pg_aload_n (pc := 82) hC dX5_put_82 0 rfl rfl ?_
            refine pgM_geta (pc := 83) hC dX5_put_83 5 (List.mem_of_getElem? (i := 3) rfl) miX5_put_X5 hok1 (by decide) ?_
            refine pg_aload_n (pc := 86) hC dX5_put_86 0 rfl rfl ?_
            refine pgM_geti (pc := 87) (v := nI m) hC dX5_put_87 6 (List.mem_of_getElem? (i := 2) rfl) miX5_put_X5 hok1 (by decide) hn1 ?_
            refine pg_lload_n (pc := 90) hC dX5_put_90 1 rfl rfl ?_
            refine pg_bipush (pc := 91) (v := 8) hC dX5_put_91 (by decide) ?_
            refine pg_iload (pc := 93) hC dX5_put_93 4 rfl ?_
            refine pg_imul (pc := 95) (v := nI (8 * j)) hC dX5_put_95 (pk_mul (8) (j)) ?_
            refine pg_lushr (pc := 96) (v := (X.toUInt64 >>> ((nI (8 * j) : Int32).toInt64.toUInt64 &&& Int64.toUInt64 63)).toInt64) hC dX5_put_96 rfl ?_
            refine pg_ldc2 (pc := 97) (v := 255) hC dX5_put_97 (List.mem_of_getElem? (i := 1) rfl) ?_
            refine pg_land (pc := 100) (v := ((X.toUInt64 >>> ((nI (8 * j) : Int32).toInt64.toUInt64 &&& Int64.toUInt64 63)).toInt64) &&& 255) hC dX5_put_100 rfl ?_
            refine pg_l2i (pc := 101) (v := nI (kC X j)) hC dX5_put_101 (kC_at2 X (by omega)) ?_
            refine pgM_iast (pc := 102) hC dX5_put_102 5 (m) hok1 (by decide) rfl (show m < 60 by omega) (fun f3 hokw3 => ?_)
            refine pg_aload_n (pc := 103) hC dX5_put_103 0 rfl rfl ?_
            refine pg_dup (pc := 104) hC dX5_put_104 rfl ?_
            refine pgM_geti (pc := 105) (v := nI m) hC dX5_put_105 6 (List.mem_of_getElem? (i := 2) rfl) miX5_put_X5 hokw3 (by decide) hn1 ?_
            refine pg_iconst (pc := 108) (v := 1) hC dX5_put_108 (by decide) ?_
            refine pg_iadd (pc := 109) (v := nI (m + 1)) hC dX5_put_109 (nI_add (m) (1)) ?_
            refine pgM_puti (pc := 110) hC dX5_put_110 6 (List.mem_of_getElem? (i := 2) rfl) miX5_put_X5 hokw3 (by decide) (fun f4 hokw4 => ?_)
            refine pg_iinc (pc := 113) (v := nI j - 1) (vs' := [(6, .int (nI j - 1)), (0, .ref (x 11 2)), (1, .long (X)), (3, .long (y)), (5, .int (nI i))]) hC dX5_put_113 4 rfl (i_dec _) (by decide) rfl ?_
            refine pg_goto (pc := 116) hC 77 dX5_put_116 (by decide) ?_
            refine pg_sub (vs' := [(0, .ref (x 11 2)), (1, .long (X)), (3, .long (y)), (5, .int (nI i)), (6, .int (nI j - 1))]) [1, 2, 3, 4, 0] rfl ?_
            exact ih10 (j, m + 1, f4, (zu (zu z1 5 m (nI (kC X j))) 6 0 (nI (m + 1)))) ⟨(show j ≤ 8 by omega), (show m + 1 + j = pl + sCh X 8 0 by omega), rfl, hokw4, hE⟩ (by omega)
        · skip
          have h60 : ¬ pl + sCh X 8 0 ≤ 60 := by omega
          refine pg_bipush (pc := 68) (v := (-4)) hC dX5_put_68 (by decide) ?_
          exact pg_iret (pc := 70) hC dX5_put_70 rfl ⟨(by unfold tPut; rw [if_neg h0, if_neg h60]), rfl, (by unfold mPut; rw [if_neg h0, if_neg h60]; exact hok)⟩
      · skip
        have h0 : sCh X 8 0 = 0 := by have q := (nI_eq (a := i) (b := 0) (by omega) (by decide)).mp c8; omega
        refine pg_bipush (pc := 53) (v := (-2)) hC dX5_put_53 (by decide) ?_
        exact pg_iret (pc := 55) hC dX5_put_55 rfl ⟨(by unfold tPut; rw [if_pos h0]), rfl, (by unfold mPut; rw [if_pos h0]; exact hok)⟩
    · skip
      refine pg_lload_n (pc := 18) hC dX5_put_18 2 rfl rfl ?_
      refine pg_ldc2 (pc := 19) (v := 255) hC dX5_put_19 (List.mem_of_getElem? (i := 1) rfl) ?_
      refine pg_land (pc := 22) (v := y &&& 255) hC dX5_put_22 rfl ?_
      refine pg_l2i (pc := 23) (v := nI (kC X i)) hC dX5_put_23 ((and255 y).trans (by rw [hY]; rfl)) ?_
      refine pg_bipush (pc := 24) (v := 33) hC dX5_put_24 (by decide) ?_
      refine pg_bipush (pc := 26) (v := 126) hC dX5_put_26 (by decide) ?_
      refine pg_callSRi (pc := 28) (As := [.int (nI (kC X i)), .int 33, .int 126]) (rest := []) hC dX5_put_28 (cX5_in_c l (nI (kC X i)) 33 126) (va_cwS 3 hC.2.2.2.2.1 gX5_put_X5_in rfl rfl rfl (by decide +kernel) ⟨Nat.le_of_ble_eq_true rfl, Nat.le_of_ble_eq_true rfl⟩) rfl rfl (Nat.le_of_ble_eq_true rfl) (Nat.zero_le _) (Nat.zero_le _) ?_
      refine pg_if_ne (pc := 31) hC 37 dX5_put_31 (by decide)  (fun c12 => ?_) (fun c12 => ?_)
      · skip
        refine pg_lload_n (pc := 37) hC dX5_put_37 2 rfl rfl ?_
        refine pg_bipush (pc := 38) (v := 8) hC dX5_put_38 (by decide) ?_
        refine pg_lushr (pc := 40) (v := (y.toUInt64 >>> ((8 : Int32).toInt64.toUInt64 &&& Int64.toUInt64 63)).toInt64) hC dX5_put_40 rfl ?_
        refine pg_lstore_n (pc := 41) (vs' := [(3, .long ((y.toUInt64 >>> ((8 : Int32).toInt64.toUInt64 &&& Int64.toUInt64 63)).toInt64)), (0, .ref (x 11 2)), (1, .long (X)), (5, .int (nI i))]) hC dX5_put_41 rfl (by decide) rfl ?_
        refine pg_iinc (pc := 42) (v := nI (i + 1)) (vs' := [(5, .int (nI (i + 1))), (3, .long ((y.toUInt64 >>> ((8 : Int32).toInt64.toUInt64 &&& Int64.toUInt64 63)).toInt64)), (0, .ref (x 11 2)), (1, .long (X))]) hC dX5_put_42 3 rfl (nI_add (i) 1) (by decide) rfl ?_
        refine pg_goto (pc := 45) hC 5 dX5_put_45 (by decide) ?_
        refine pg_sub (vs' := [(0, .ref (x 11 2)), (1, .long (X)), (3, .long ((y.toUInt64 >>> ((8 : Int32).toInt64.toUInt64 &&& Int64.toUInt64 63)).toInt64)), (5, .int (nI (i + 1)))]) [2, 3, 1, 0] rfl ?_
        exact ih1 (i + 1, (y.toUInt64 >>> ((8 : Int32).toInt64.toUInt64 &&& Int64.toUInt64 63)).toInt64) ⟨(show i + 1 ≤ 8 by omega), (sh8 y).trans (by rw [hY, div_256]), (by rw [← hF]; show sCh X (8 - (i + 1)) (i + 1) = _; rw [show 8 - i = (8 - (i + 1)) + 1 by omega, sCh_next c12])⟩ (by omega)
      · skip
        have h0 : sCh X 8 0 = 0 := hF.symm.trans (sCh_bad (by omega) (by omega) (fun q => c2 ((lcmp0 y).mpr (hY.trans q))) c12)
        refine pg_bipush (pc := 34) (v := (-2)) hC dX5_put_34 (by decide) ?_
        exact pg_iret (pc := 36) hC dX5_put_36 rfl ⟨(by unfold tPut; rw [if_pos h0]), rfl, (by unfold mPut; rw [if_pos h0]; exact hok)⟩
