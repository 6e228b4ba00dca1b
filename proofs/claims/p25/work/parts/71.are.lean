abbrev rmL_arePupils : Room := { frames := 5, cells := 0, slots := 0, locals := 111 }
set_option maxHeartbeats 16000000 in
set_option maxRecDepth 20000 in
theorem cL_arePupils_c (l : Launch) {κ : pv_Kt} {L : List Nat} {f : Nat → va_E} {x : Nat → Nat → Nat} {Z : Nat → Nat → Nat → Int32} (hok : pv_ok κ x L f Z) (n K : Nat) (h : IV (Z 0) n K) (hK : K ≤ 100)  : pv_Mi l κ yL_arePupils wsL_arePupils rmL_arePupils L f [.ref (x 12 2)] 0 0 (pv_R L f 1) := by
  refine pv_startI (cc := cL_arePupils) (maxL := 17) (ret := (some .boolean)) (by decide) rfl (Nat.le_of_ble_eq_true rfl) (fun A0 P0 E0 S0 M0 a0 B0 T0 C0 hC => ?_)
  refine pg_sub (vs' := [(0, .ref (x 12 2))]) [0] rfl ?_
  have hn := h.nn
  have hn12 := h.n12
  refine pg_iconst (pc := 0) (v := 0) hC dL_arePupils_0 (by decide) ?_
  refine pg_istore_n (pc := 1) (vs' := [(1, .int 0), (0, .ref (x 12 2))]) hC dL_arePupils_1 rfl (by decide) rfl ?_
  refine pg_iconst (pc := 2) (v := 0) hC dL_arePupils_2 (by decide) ?_
  refine pg_istore_n (pc := 3) (vs' := [(2, .int 0), (1, .int 0), (0, .ref (x 12 2))]) hC dL_arePupils_3 rfl (by decide) rfl ?_
  refine pg_iconst (pc := 4) (v := 0) hC dL_arePupils_4 (by decide) ?_
  refine pg_istore_n (pc := 5) (vs' := [(3, .int 0), (2, .int 0), (1, .int 0), (0, .ref (x 12 2))]) hC dL_arePupils_5 rfl (by decide) rfl ?_
  refine pg_iconst (pc := 6) (v := 0) hC dL_arePupils_6 (by decide) ?_
  refine pg_istore (pc := 7) (vs' := [(4, .int 0), (3, .int 0), (2, .int 0), (1, .int 0), (0, .ref (x 12 2))]) hC dL_arePupils_7 (by decide) rfl ?_
  refine pg_iconst (pc := 9) (v := 0) hC dL_arePupils_9 (by decide) ?_
  refine pg_istore (pc := 10) (vs' := [(5, .int 0), (4, .int 0), (3, .int 0), (2, .int 0), (1, .int 0), (0, .ref (x 12 2))]) hC dL_arePupils_10 (by decide) rfl ?_
  refine pg_iconst (pc := 12) (v := 0) hC dL_arePupils_12 (by decide) ?_
  refine pg_istore (pc := 13) (vs' := [(6, .int 0), (5, .int 0), (4, .int 0), (3, .int 0), (2, .int 0), (1, .int 0), (0, .ref (x 12 2))]) hC dL_arePupils_13 (by decide) rfl ?_
  refine pg_iconst (pc := 15) (v := 0) hC dL_arePupils_15 (by decide) ?_
  refine pg_istore (pc := 16) (vs' := [(7, .int 0), (6, .int 0), (5, .int 0), (4, .int 0), (3, .int 0), (2, .int 0), (1, .int 0), (0, .ref (x 12 2))]) hC dL_arePupils_16 (by decide) rfl ?_
  refine pg_iconst (pc := 18) (v := 1) hC dL_arePupils_18 (by decide) ?_
  refine pg_istore (pc := 19) (vs' := [(8, .int 1), (7, .int 0), (6, .int 0), (5, .int 0), (4, .int 0), (3, .int 0), (2, .int 0), (1, .int 0), (0, .ref (x 12 2))]) hC dL_arePupils_19 (by decide) rfl ?_
  refine pg_iconst (pc := 21) (v := 0) hC dL_arePupils_21 (by decide) ?_
  refine pg_istore (pc := 22) (vs' := [(9, .int 0), (8, .int 1), (7, .int 0), (6, .int 0), (5, .int 0), (4, .int 0), (3, .int 0), (2, .int 0), (1, .int 0), (0, .ref (x 12 2))]) hC dL_arePupils_22 (by decide) rfl ?_
  refine pg_sub (vs' := [(0, .ref (x 12 2)), (1, .int 0), (2, .int 0), (3, .int 0), (4, .int 0), (5, .int 0), (6, .int 0), (7, .int 0), (8, .int 1), (9, .int 0)]) [9, 8, 7, 6, 5, 4, 3, 2, 1, 0] rfl ?_
  refine pg_loop (pc := 24) (σ := Nat) (I := fun q => match q with | p => p ≤ 10) (μ := fun q => match q with | p => 10 - p) (VS := fun q => match q with | p => [(0, .ref (x 12 2)), (1, .int (bx_sum (Z 0 7) p)), (2, .int (bx_sum (Z 0 8) p)), (3, .int (bx_sum (Z 0 6) p)), (4, .int (bx_sum (fun j => if j % 2 = 0 then Z 0 12 (j / 2) else 0) p)), (5, .int (bx_sum (Z 0 9) p)), (6, .int (bx_sum (Z 0 10) p)), (7, .int (bx_sum (fun j => sUP (Z 0) j) p)), (8, .int 1), (9, .int (nI p))]) (FF := fun q => match q with | p => f) ?_ (0) (Nat.zero_le _)
  intro q hI ih1
  obtain ⟨p, rfl⟩ : ∃ z, z = q := ⟨_, rfl⟩
  dsimp only at hI ih1 ⊢
  have hI2 := hI
  obtain hp := hI
  refine pg_iload (pc := 24) hC dL_arePupils_24 9 rfl ?_
  refine pg_bipush (pc := 26) (v := 10) hC dL_arePupils_26 (by decide) ?_
  refine pg_icmp_geN (pc := 28) hC 321 dL_arePupils_28 (by decide) (p) (10) rfl rfl (by omega) (by omega) (fun c2 => ?_) (fun c2 => ?_)
  · skip
    have e : p = 10 := by omega
    subst e
    refine pg_iconst (pc := 321) (v := 0) hC dL_arePupils_321 (by decide) ?_
    refine pg_istore (pc := 322) (vs' := [(9, .int 0), (0, .ref (x 12 2)), (1, .int (bx_sum (Z 0 7) 10)), (2, .int (bx_sum (Z 0 8) 10)), (3, .int (bx_sum (Z 0 6) 10)), (4, .int (bx_sum (fun j => if j % 2 = 0 then Z 0 12 (j / 2) else 0) 10)), (5, .int (bx_sum (Z 0 9) 10)), (6, .int (bx_sum (Z 0 10) 10)), (7, .int (bx_sum (fun j => sUP (Z 0) j) 10)), (8, .int 1)]) hC dL_arePupils_322 (by decide) rfl ?_
    refine pg_iconst (pc := 324) (v := 0) hC dL_arePupils_324 (by decide) ?_
    refine pg_istore (pc := 325) (vs' := [(10, .int 0), (9, .int 0), (0, .ref (x 12 2)), (1, .int (bx_sum (Z 0 7) 10)), (2, .int (bx_sum (Z 0 8) 10)), (3, .int (bx_sum (Z 0 6) 10)), (4, .int (bx_sum (fun j => if j % 2 = 0 then Z 0 12 (j / 2) else 0) 10)), (5, .int (bx_sum (Z 0 9) 10)), (6, .int (bx_sum (Z 0 10) 10)), (7, .int (bx_sum (fun j => sUP (Z 0) j) 10)), (8, .int 1)]) hC dL_arePupils_325 (by decide) rfl ?_
    refine pg_iconst (pc := 327) (v := 0) hC dL_arePupils_327 (by decide) ?_
    refine pg_istore (pc := 328) (vs' := [(11, .int 0), (10, .int 0), (9, .int 0), (0, .ref (x 12 2)), (1, .int (bx_sum (Z 0 7) 10)), (2, .int (bx_sum (Z 0 8) 10)), (3, .int (bx_sum (Z 0 6) 10)), (4, .int (bx_sum (fun j => if j % 2 = 0 then Z 0 12 (j / 2) else 0) 10)), (5, .int (bx_sum (Z 0 9) 10)), (6, .int (bx_sum (Z 0 10) 10)), (7, .int (bx_sum (fun j => sUP (Z 0) j) 10)), (8, .int 1)]) hC dL_arePupils_328 (by decide) rfl ?_
    refine pg_iconst (pc := 330) (v := 0) hC dL_arePupils_330 (by decide) ?_
    refine pg_istore (pc := 331) (vs' := [(12, .int 0), (11, .int 0), (10, .int 0), (9, .int 0), (0, .ref (x 12 2)), (1, .int (bx_sum (Z 0 7) 10)), (2, .int (bx_sum (Z 0 8) 10)), (3, .int (bx_sum (Z 0 6) 10)), (4, .int (bx_sum (fun j => if j % 2 = 0 then Z 0 12 (j / 2) else 0) 10)), (5, .int (bx_sum (Z 0 9) 10)), (6, .int (bx_sum (Z 0 10) 10)), (7, .int (bx_sum (fun j => sUP (Z 0) j) 10)), (8, .int 1)]) hC dL_arePupils_331 (by decide) rfl ?_
    refine pg_sub (vs' := [(0, .ref (x 12 2)), (1, .int (bx_sum (Z 0 7) 10)), (2, .int (bx_sum (Z 0 8) 10)), (3, .int (bx_sum (Z 0 6) 10)), (4, .int (bx_sum (fun j => if j % 2 = 0 then Z 0 12 (j / 2) else 0) 10)), (5, .int (bx_sum (Z 0 9) 10)), (6, .int (bx_sum (Z 0 10) 10)), (7, .int (bx_sum (fun j => sUP (Z 0) j) 10)), (8, .int 1), (9, .int 0), (10, .int 0), (11, .int 0), (12, .int 0)]) [4, 5, 6, 7, 8, 9, 10, 11, 12, 3, 2, 1, 0] rfl ?_
    refine pg_loop (pc := 333) (σ := Nat) (I := fun q => match q with | e => e ≤ n) (μ := fun q => match q with | e => n - e) (VS := fun q => match q with | e => [(0, .ref (x 12 2)), (1, .int (bx_sum (Z 0 7) 10)), (2, .int (bx_sum (Z 0 8) 10)), (3, .int (bx_sum (Z 0 6) 10)), (4, .int (bx_sum (fun j => if j % 2 = 0 then Z 0 12 (j / 2) else 0) 10)), (5, .int (bx_sum (Z 0 9) 10)), (6, .int (bx_sum (Z 0 10) 10)), (7, .int (bx_sum (fun j => sUP (Z 0) j) 10)), (8, .int 1), (9, .int (bx_sum (fun j => sUS (Z 0) j) e)), (10, .int (bx_sum (Z 0 4) e)), (11, .int (sWOs (Z 0) e)), (12, .int (nI e))]) (FF := fun q => match q with | e => f) ?_ (0) (Nat.zero_le _)
    intro q hI ih3
    obtain ⟨e, rfl⟩ : ∃ z, z = q := ⟨_, rfl⟩
    dsimp only at hI ih3 ⊢
    have hI2 := hI
    obtain he := hI
    refine pg_iload (pc := 333) hC dL_arePupils_333 12 rfl ?_
    refine pg_aload_n (pc := 335) hC dL_arePupils_335 0 rfl rfl ?_
    refine pg_iconst (pc := 336) (v := 5) hC dL_arePupils_336 (by decide) ?_
    refine pg_callVYi (pc := 337) (As := [.int 5]) (rest := [.int (nI e)]) (v2 := nI n) hC dL_arePupils_337 (cX4_count_c l hok n hn hn12 5 _ rfl) ((tC _ _).2.2.2.2.2.1.trans hn) (cwV 1 hC.2.2.2.2.1 gL_arePupils_X4_count rfl rfl rfl (by decide +kernel) ⟨Nat.le_of_ble_eq_true rfl, Nat.le_of_ble_eq_true rfl⟩) (ok_mem hok (by decide)) (ok_Xo hok) rfl rfl rfl rfl (Nat.le_of_ble_eq_true rfl) (Nat.zero_le _) (Nat.zero_le _) ?_
    refine pg_icmp_geN (pc := 340) hC 640 dL_arePupils_340 (by decide) (e) (n) rfl rfl (by omega) (by omega) (fun c4 => ?_) (fun c4 => ?_)
    · skip
      have e0 : e = n := by omega
      refine pg_vs (vs' := [(0, .ref (x 12 2)), (1, .int (bx_sum (Z 0 7) 10)), (2, .int (bx_sum (Z 0 8) 10)), (3, .int (bx_sum (Z 0 6) 10)), (4, .int (bx_sum (fun j => if j % 2 = 0 then Z 0 12 (j / 2) else 0) 10)), (5, .int (bx_sum (Z 0 9) 10)), (6, .int (bx_sum (Z 0 10) 10)), (7, .int (bx_sum (fun j => sUP (Z 0) j) 10)), (8, .int 1), (9, .int (bx_sum (fun j => sUS (Z 0) j) n)), (10, .int (bx_sum (Z 0 4) n)), (11, .int (sWOs (Z 0) n)), (12, .int (nI n))]) (by rw [e0]) ?_
      refine pg_iload (pc := 640) hC dL_arePupils_640 8 rfl ?_
      refine pg_if_eq (pc := 642) hC 770 dL_arePupils_642 (by decide)  (fun c5 => False.elim (absurd c5 (by decide))) (fun c5 => ?_)
      refine pg_iload_n (pc := 645) hC dL_arePupils_645 1 rfl rfl ?_
      refine pg_aload_n (pc := 646) hC dL_arePupils_646 0 rfl rfl ?_
      refine pg_bipush (pc := 647) (v := 11) hC dL_arePupils_647 (by decide) ?_
      refine pg_callVYi (pc := 649) (As := [.int 11]) (rest := [.int (bx_sum (Z 0 7) 10)]) (v2 := bx_sum (Z 0 7) 10) hC dL_arePupils_649 (cX4_count_c l hok n hn hn12 11 _ rfl) (tC _ _).2.2.2.2.2.2.2.2.2.2.2.1 (cwV 1 hC.2.2.2.2.1 gL_arePupils_X4_count rfl rfl rfl (by decide +kernel) ⟨Nat.le_of_ble_eq_true rfl, Nat.le_of_ble_eq_true rfl⟩) (ok_mem hok (by decide)) (ok_Xo hok) rfl rfl rfl rfl (Nat.le_of_ble_eq_true rfl) (Nat.zero_le _) (Nat.zero_le _) ?_
      refine pg_icmp_ne (pc := 652) hC 770 dL_arePupils_652 (by decide)  (fun c6 => False.elim (c6 rfl)) (fun c6 => ?_)
      refine pg_iload_n (pc := 655) hC dL_arePupils_655 2 rfl rfl ?_
      refine pg_aload_n (pc := 656) hC dL_arePupils_656 0 rfl rfl ?_
      refine pg_bipush (pc := 657) (v := 12) hC dL_arePupils_657 (by decide) ?_
      refine pg_callVYi (pc := 659) (As := [.int 12]) (rest := [.int (bx_sum (Z 0 8) 10)]) (v2 := bx_sum (Z 0 8) 10) hC dL_arePupils_659 (cX4_count_c l hok n hn hn12 12 _ rfl) (tC _ _).2.2.2.2.2.2.2.2.2.2.2.2.1 (cwV 1 hC.2.2.2.2.1 gL_arePupils_X4_count rfl rfl rfl (by decide +kernel) ⟨Nat.le_of_ble_eq_true rfl, Nat.le_of_ble_eq_true rfl⟩) (ok_mem hok (by decide)) (ok_Xo hok) rfl rfl rfl rfl (Nat.le_of_ble_eq_true rfl) (Nat.zero_le _) (Nat.zero_le _) ?_
      refine pg_icmp_ne (pc := 662) hC 770 dL_arePupils_662 (by decide)  (fun c7 => False.elim (c7 rfl)) (fun c7 => ?_)
      refine pg_iload_n (pc := 665) hC dL_arePupils_665 1 rfl rfl ?_
      refine pg_iload_n (pc := 666) hC dL_arePupils_666 2 rfl rfl ?_
      refine pg_iadd (pc := 667) (v := (bx_sum (Z 0 7) 10) + (bx_sum (Z 0 8) 10)) hC dL_arePupils_667 rfl ?_
      refine pg_aload_n (pc := 668) hC dL_arePupils_668 0 rfl rfl ?_
      refine pg_bipush (pc := 669) (v := 13) hC dL_arePupils_669 (by decide) ?_
      refine pg_callVYi (pc := 671) (As := [.int 13]) (rest := [.int ((bx_sum (Z 0 7) 10) + (bx_sum (Z 0 8) 10))]) (v2 := bx_sum (Z 0 7) 10 + bx_sum (Z 0 8) 10) hC dL_arePupils_671 (cX4_count_c l hok n hn hn12 13 _ rfl) (tC _ _).2.2.2.2.2.2.2.2.2.2.2.2.2.1 (cwV 1 hC.2.2.2.2.1 gL_arePupils_X4_count rfl rfl rfl (by decide +kernel) ⟨Nat.le_of_ble_eq_true rfl, Nat.le_of_ble_eq_true rfl⟩) (ok_mem hok (by decide)) (ok_Xo hok) rfl rfl rfl rfl (Nat.le_of_ble_eq_true rfl) (Nat.zero_le _) (Nat.zero_le _) ?_
      refine pg_icmp_ne (pc := 674) hC 770 dL_arePupils_674 (by decide)  (fun c8 => False.elim (c8 rfl)) (fun c8 => ?_)
      refine pg_iload_n (pc := 677) hC dL_arePupils_677 3 rfl rfl ?_
      refine pg_aload_n (pc := 678) hC dL_arePupils_678 0 rfl rfl ?_
      refine pg_bipush (pc := 679) (v := 15) hC dL_arePupils_679 (by decide) ?_
      refine pg_callVYi (pc := 681) (As := [.int 15]) (rest := [.int (bx_sum (Z 0 6) 10)]) (v2 := bx_sum (Z 0 6) 10) hC dL_arePupils_681 (cX4_count_c l hok n hn hn12 15 _ rfl) (tC _ _).2.2.2.2.2.2.2.2.2.2.2.2.2.2.2.1 (cwV 1 hC.2.2.2.2.1 gL_arePupils_X4_count rfl rfl rfl (by decide +kernel) ⟨Nat.le_of_ble_eq_true rfl, Nat.le_of_ble_eq_true rfl⟩) (ok_mem hok (by decide)) (ok_Xo hok) rfl rfl rfl rfl (Nat.le_of_ble_eq_true rfl) (Nat.zero_le _) (Nat.zero_le _) ?_
      refine pg_icmp_ne (pc := 684) hC 770 dL_arePupils_684 (by decide)  (fun c9 => False.elim (c9 rfl)) (fun c9 => ?_)
      refine pg_iload (pc := 687) hC dL_arePupils_687 4 rfl ?_
      refine pg_aload_n (pc := 689) hC dL_arePupils_689 0 rfl rfl ?_
      refine pg_bipush (pc := 690) (v := 16) hC dL_arePupils_690 (by decide) ?_
      refine pg_callVYi (pc := 692) (As := [.int 16]) (rest := [.int (bx_sum (fun j => if j % 2 = 0 then Z 0 12 (j / 2) else 0) 10)]) (v2 := bx_sum (Z 0 12) 5) hC dL_arePupils_692 (cX4_count_c l hok n hn hn12 16 _ rfl) (tC _ _).2.2.2.2.2.2.2.2.2.2.2.2.2.2.2.2.1 (cwV 1 hC.2.2.2.2.1 gL_arePupils_X4_count rfl rfl rfl (by decide +kernel) ⟨Nat.le_of_ble_eq_true rfl, Nat.le_of_ble_eq_true rfl⟩) (ok_mem hok (by decide)) (ok_Xo hok) rfl rfl rfl rfl (Nat.le_of_ble_eq_true rfl) (Nat.zero_le _) (Nat.zero_le _) ?_
      refine pg_icmp_ne (pc := 695) hC 770 dL_arePupils_695 (by decide)  (fun c10 => False.elim (c10 (ap_gr (Z 0)))) (fun c10 => ?_)
      refine pg_iload (pc := 698) hC dL_arePupils_698 5 rfl ?_
      refine pg_aload_n (pc := 700) hC dL_arePupils_700 0 rfl rfl ?_
      refine pg_bipush (pc := 701) (v := 6) hC dL_arePupils_701 (by decide) ?_
      refine pg_callVYi (pc := 703) (As := [.int 6]) (rest := [.int (bx_sum (Z 0 9) 10)]) (v2 := bx_sum (Z 0 9) 10) hC dL_arePupils_703 (cX4_count_c l hok n hn hn12 6 _ rfl) (tC _ _).2.2.2.2.2.2.1 (cwV 1 hC.2.2.2.2.1 gL_arePupils_X4_count rfl rfl rfl (by decide +kernel) ⟨Nat.le_of_ble_eq_true rfl, Nat.le_of_ble_eq_true rfl⟩) (ok_mem hok (by decide)) (ok_Xo hok) rfl rfl rfl rfl (Nat.le_of_ble_eq_true rfl) (Nat.zero_le _) (Nat.zero_le _) ?_
      refine pg_icmp_ne (pc := 706) hC 770 dL_arePupils_706 (by decide)  (fun c11 => False.elim (c11 rfl)) (fun c11 => ?_)
      refine pg_iload (pc := 709) hC dL_arePupils_709 6 rfl ?_
      refine pg_aload_n (pc := 711) hC dL_arePupils_711 0 rfl rfl ?_
      refine pg_bipush (pc := 712) (v := 7) hC dL_arePupils_712 (by decide) ?_
      refine pg_callVYi (pc := 714) (As := [.int 7]) (rest := [.int (bx_sum (Z 0 10) 10)]) (v2 := Z 0 13 1) hC dL_arePupils_714 (cX4_count_c l hok n hn hn12 7 _ rfl) (tC _ _).2.2.2.2.2.2.2.1 (cwV 1 hC.2.2.2.2.1 gL_arePupils_X4_count rfl rfl rfl (by decide +kernel) ⟨Nat.le_of_ble_eq_true rfl, Nat.le_of_ble_eq_true rfl⟩) (ok_mem hok (by decide)) (ok_Xo hok) rfl rfl rfl rfl (Nat.le_of_ble_eq_true rfl) (Nat.zero_le _) (Nat.zero_le _) ?_
      refine pg_aload_n (pc := 717) hC dL_arePupils_717 0 rfl rfl ?_
      refine pg_bipush (pc := 718) (v := 8) hC dL_arePupils_718 (by decide) ?_
      refine pg_callVYi (pc := 720) (As := [.int 8]) (rest := [.int (Z 0 13 1), .int (bx_sum (Z 0 10) 10)]) (v2 := Z 0 13 2) hC dL_arePupils_720 (cX4_count_c l hok n hn hn12 8 _ rfl) (tC _ _).2.2.2.2.2.2.2.2.1 (cwV 1 hC.2.2.2.2.1 gL_arePupils_X4_count rfl rfl rfl (by decide +kernel) ⟨Nat.le_of_ble_eq_true rfl, Nat.le_of_ble_eq_true rfl⟩) (ok_mem hok (by decide)) (ok_Xo hok) rfl rfl rfl rfl (Nat.le_of_ble_eq_true rfl) (Nat.zero_le _) (Nat.zero_le _) ?_
      refine pg_iadd (pc := 723) (v := (Z 0 13 1) + (Z 0 13 2)) hC dL_arePupils_723 rfl ?_
      refine pg_aload_n (pc := 724) hC dL_arePupils_724 0 rfl rfl ?_
      refine pg_bipush (pc := 725) (v := 9) hC dL_arePupils_725 (by decide) ?_
      refine pg_callVYi (pc := 727) (As := [.int 9]) (rest := [.int ((Z 0 13 1) + (Z 0 13 2)), .int (bx_sum (Z 0 10) 10)]) (v2 := Z 0 13 3) hC dL_arePupils_727 (cX4_count_c l hok n hn hn12 9 _ rfl) (tC _ _).2.2.2.2.2.2.2.2.2.1 (cwV 1 hC.2.2.2.2.1 gL_arePupils_X4_count rfl rfl rfl (by decide +kernel) ⟨Nat.le_of_ble_eq_true rfl, Nat.le_of_ble_eq_true rfl⟩) (ok_mem hok (by decide)) (ok_Xo hok) rfl rfl rfl rfl (Nat.le_of_ble_eq_true rfl) (Nat.zero_le _) (Nat.zero_le _) ?_
      refine pg_iadd (pc := 730) (v := ((Z 0 13 1) + (Z 0 13 2)) + (Z 0 13 3)) hC dL_arePupils_730 rfl ?_
      refine pg_aload_n (pc := 731) hC dL_arePupils_731 0 rfl rfl ?_
      refine pg_bipush (pc := 732) (v := 10) hC dL_arePupils_732 (by decide) ?_
      refine pg_callVYi (pc := 734) (As := [.int 10]) (rest := [.int (((Z 0 13 1) + (Z 0 13 2)) + (Z 0 13 3)), .int (bx_sum (Z 0 10) 10)]) (v2 := Z 0 13 4) hC dL_arePupils_734 (cX4_count_c l hok n hn hn12 10 _ rfl) (tC _ _).2.2.2.2.2.2.2.2.2.2.1 (cwV 1 hC.2.2.2.2.1 gL_arePupils_X4_count rfl rfl rfl (by decide +kernel) ⟨Nat.le_of_ble_eq_true rfl, Nat.le_of_ble_eq_true rfl⟩) (ok_mem hok (by decide)) (ok_Xo hok) rfl rfl rfl rfl (Nat.le_of_ble_eq_true rfl) (Nat.zero_le _) (Nat.zero_le _) ?_
      refine pg_iadd (pc := 737) (v := (((Z 0 13 1) + (Z 0 13 2)) + (Z 0 13 3)) + (Z 0 13 4)) hC dL_arePupils_737 rfl ?_
      refine pg_icmp_ne (pc := 738) hC 770 dL_arePupils_738 (by decide)  (fun c12 => False.elim (c12 (ap_ref h))) (fun c12 => ?_)
      refine pg_iload (pc := 741) hC dL_arePupils_741 9 rfl ?_
      refine pg_iload (pc := 743) hC dL_arePupils_743 7 rfl ?_
      refine pg_icmp_ne (pc := 745) hC 770 dL_arePupils_745 (by decide)  (fun c13 => False.elim (c13 (ap_us h hK))) (fun c13 => ?_)
      refine pg_iload (pc := 748) hC dL_arePupils_748 10 rfl ?_
      refine pg_iload (pc := 750) hC dL_arePupils_750 5 rfl ?_
      refine pg_icmp_ne (pc := 752) hC 770 dL_arePupils_752 (by decide)  (fun c14 => False.elim (c14 (ap_all h))) (fun c14 => ?_)
      refine pg_iload (pc := 755) hC dL_arePupils_755 11 rfl ?_
      refine pg_aload_n (pc := 757) hC dL_arePupils_757 0 rfl rfl ?_
      refine pg_bipush (pc := 758) (v := 17) hC dL_arePupils_758 (by decide) ?_
      refine pg_callVYi (pc := 760) (As := [.int 17]) (rest := [.int (sWOs (Z 0) n)]) (v2 := sWOs (Z 0) n) hC dL_arePupils_760 (cX4_count_c l hok n hn hn12 17 _ rfl) (tC _ _).2.2.2.2.2.2.2.2.2.2.2.2.2.2.2.2.2.1 (cwV 1 hC.2.2.2.2.1 gL_arePupils_X4_count rfl rfl rfl (by decide +kernel) ⟨Nat.le_of_ble_eq_true rfl, Nat.le_of_ble_eq_true rfl⟩) (ok_mem hok (by decide)) (ok_Xo hok) rfl rfl rfl rfl (Nat.le_of_ble_eq_true rfl) (Nat.zero_le _) (Nat.zero_le _) ?_
      refine pg_icmp_ne (pc := 763) hC 770 dL_arePupils_763 (by decide)  (fun c15 => False.elim (c15 rfl)) (fun c15 => ?_)
      refine pg_iconst (pc := 766) (v := 1) hC dL_arePupils_766 (by decide) ?_
      refine pg_goto (pc := 767) hC 771 dL_arePupils_767 (by decide) ?_
      exact pg_zret (pc := 771) hC dL_arePupils_771 rfl rfl ⟨rfl, rfl⟩
    · skip
      have he12 : e < 12 := by omega
      obtain ⟨b1, b2, b3, b4, b5⟩ := ap_e h hK (e := e) (by omega)
      obtain ⟨ms, m1, m2, m3, m4, m5⟩ := ap_users h hK he12
      refine pg_iload (pc := 343) hC dL_arePupils_343 8 rfl ?_
      refine pg_if_eq (pc := 345) hC 640 dL_arePupils_345 (by decide)  (fun c16 => False.elim (absurd c16 (by decide))) (fun c16 => ?_)
      refine pg_iconst (pc := 348) (v := 0) hC dL_arePupils_348 (by decide) ?_
      refine pg_istore (pc := 349) (vs' := [(13, .int 0), (0, .ref (x 12 2)), (1, .int (bx_sum (Z 0 7) 10)), (2, .int (bx_sum (Z 0 8) 10)), (3, .int (bx_sum (Z 0 6) 10)), (4, .int (bx_sum (fun j => if j % 2 = 0 then Z 0 12 (j / 2) else 0) 10)), (5, .int (bx_sum (Z 0 9) 10)), (6, .int (bx_sum (Z 0 10) 10)), (7, .int (bx_sum (fun j => sUP (Z 0) j) 10)), (8, .int 1), (9, .int (bx_sum (fun j => sUS (Z 0) j) e)), (10, .int (bx_sum (Z 0 4) e)), (11, .int (sWOs (Z 0) e)), (12, .int (nI e))]) hC dL_arePupils_349 (by decide) rfl ?_
      refine pg_aload_n (pc := 351) hC dL_arePupils_351 1 rfl rfl ?_
      refine pg_iload (pc := 352) hC dL_arePupils_352 13 rfl ?_
      refine pg_iconst (pc := 354) (v := 4) hC dL_arePupils_354 (by decide) ?_
      refine pg_callVYi (pc := 355) (As := [.int (nI e), .int 4]) (rest := []) (v2 := sUsers (Z 0) e) hC dL_arePupils_355 (cX4_excuse_c l hok n hn hn12 (nI e) 4) (tE4 hn (by omega) (by omega)) (cwV 2 hC.2.2.2.2.1 gL_arePupils_X4_excuse rfl rfl rfl (by decide +kernel) ⟨Nat.le_of_ble_eq_true rfl, Nat.le_of_ble_eq_true rfl⟩) (ok_mem hok (by decide)) (ok_Xo hok) rfl rfl rfl rfl (Nat.le_of_ble_eq_true rfl) (Nat.zero_le _) (Nat.zero_le _) ?_
      refine pg_istore (pc := 358) (vs' := [(14, .int (sUsers (Z 0) e)), (13, .int 0), (0, .ref (x 12 2)), (1, .int (bx_sum (Z 0 7) 10)), (2, .int (bx_sum (Z 0 8) 10)), (3, .int (bx_sum (Z 0 6) 10)), (4, .int (bx_sum (fun j => if j % 2 = 0 then Z 0 12 (j / 2) else 0) 10)), (5, .int (bx_sum (Z 0 9) 10)), (6, .int (bx_sum (Z 0 10) 10)), (7, .int (bx_sum (fun j => sUP (Z 0) j) 10)), (8, .int 1), (9, .int (bx_sum (fun j => sUS (Z 0) j) e)), (10, .int (bx_sum (Z 0 4) e)), (11, .int (sWOs (Z 0) e)), (12, .int (nI e))]) hC dL_arePupils_358 (by decide) rfl ?_
      refine pg_iload (pc := 360) hC dL_arePupils_360 11 rfl ?_
      refine pg_aload_n (pc := 362) hC dL_arePupils_362 2 rfl rfl ?_
      refine pg_iload (pc := 363) hC dL_arePupils_363 14 rfl ?_
      refine pg_iconst (pc := 365) (v := 2) hC dL_arePupils_365 (by decide) ?_
      refine pg_callVYi (pc := 366) (As := [.int (nI e), .int 2]) (rest := [.int (bx_sum (fun j => sUS (Z 0) j) e)]) (v2 := sUS (Z 0) e) hC dL_arePupils_366 (cX4_excuse_c l hok n hn hn12 (nI e) 2) (tE2 hn (by omega) (by omega)) (cwV 2 hC.2.2.2.2.1 gL_arePupils_X4_excuse rfl rfl rfl (by decide +kernel) ⟨Nat.le_of_ble_eq_true rfl, Nat.le_of_ble_eq_true rfl⟩) (ok_mem hok (by decide)) (ok_Xo hok) rfl rfl rfl rfl (Nat.le_of_ble_eq_true rfl) (Nat.zero_le _) (Nat.zero_le _) ?_
      refine pg_iadd (pc := 369) (v := (bx_sum (fun j => sUS (Z 0) j) e) + (sUS (Z 0) e)) hC dL_arePupils_369 rfl ?_
      refine pg_istore (pc := 370) (vs' := [(9, .int ((bx_sum (fun j => sUS (Z 0) j) e) + (sUS (Z 0) e))), (14, .int (sUsers (Z 0) e)), (13, .int 0), (0, .ref (x 12 2)), (1, .int (bx_sum (Z 0 7) 10)), (2, .int (bx_sum (Z 0 8) 10)), (3, .int (bx_sum (Z 0 6) 10)), (4, .int (bx_sum (fun j => if j % 2 = 0 then Z 0 12 (j / 2) else 0) 10)), (5, .int (bx_sum (Z 0 9) 10)), (6, .int (bx_sum (Z 0 10) 10)), (7, .int (bx_sum (fun j => sUP (Z 0) j) 10)), (8, .int 1), (10, .int (bx_sum (Z 0 4) e)), (11, .int (sWOs (Z 0) e)), (12, .int (nI e))]) hC dL_arePupils_370 (by decide) rfl ?_
      refine pg_iload (pc := 372) hC dL_arePupils_372 12 rfl ?_
      refine pg_aload_n (pc := 374) hC dL_arePupils_374 3 rfl rfl ?_
      refine pg_iload (pc := 375) hC dL_arePupils_375 14 rfl ?_
      refine pg_iconst (pc := 377) (v := 3) hC dL_arePupils_377 (by decide) ?_
      refine pg_callVYi (pc := 378) (As := [.int (nI e), .int 3]) (rest := [.int (bx_sum (Z 0 4) e)]) (v2 := Z 0 4 e) hC dL_arePupils_378 (cX4_excuse_c l hok n hn hn12 (nI e) 3) (tE3 hn (by omega) (by omega)) (cwV 2 hC.2.2.2.2.1 gL_arePupils_X4_excuse rfl rfl rfl (by decide +kernel) ⟨Nat.le_of_ble_eq_true rfl, Nat.le_of_ble_eq_true rfl⟩) (ok_mem hok (by decide)) (ok_Xo hok) rfl rfl rfl rfl (Nat.le_of_ble_eq_true rfl) (Nat.zero_le _) (Nat.zero_le _) ?_
      refine pg_iadd (pc := 381) (v := (bx_sum (Z 0 4) e) + (Z 0 4 e)) hC dL_arePupils_381 rfl ?_
      refine pg_istore (pc := 382) (vs' := [(10, .int ((bx_sum (Z 0 4) e) + (Z 0 4 e))), (9, .int ((bx_sum (fun j => sUS (Z 0) j) e) + (sUS (Z 0) e))), (14, .int (sUsers (Z 0) e)), (13, .int 0), (0, .ref (x 12 2)), (1, .int (bx_sum (Z 0 7) 10)), (2, .int (bx_sum (Z 0 8) 10)), (3, .int (bx_sum (Z 0 6) 10)), (4, .int (bx_sum (fun j => if j % 2 = 0 then Z 0 12 (j / 2) else 0) 10)), (5, .int (bx_sum (Z 0 9) 10)), (6, .int (bx_sum (Z 0 10) 10)), (7, .int (bx_sum (fun j => sUP (Z 0) j) 10)), (8, .int 1), (11, .int (sWOs (Z 0) e)), (12, .int (nI e))]) hC dL_arePupils_382 (by decide) rfl ?_
      refine pg_iconst (pc := 384) (v := 0) hC dL_arePupils_384 (by decide) ?_
      refine pg_istore (pc := 385) (vs' := [(15, .int 0), (10, .int ((bx_sum (Z 0 4) e) + (Z 0 4 e))), (9, .int ((bx_sum (fun j => sUS (Z 0) j) e) + (sUS (Z 0) e))), (14, .int (sUsers (Z 0) e)), (13, .int 0), (0, .ref (x 12 2)), (1, .int (bx_sum (Z 0 7) 10)), (2, .int (bx_sum (Z 0 8) 10)), (3, .int (bx_sum (Z 0 6) 10)), (4, .int (bx_sum (fun j => if j % 2 = 0 then Z 0 12 (j / 2) else 0) 10)), (5, .int (bx_sum (Z 0 9) 10)), (6, .int (bx_sum (Z 0 10) 10)), (7, .int (bx_sum (fun j => sUP (Z 0) j) 10)), (8, .int 1), (11, .int (sWOs (Z 0) e)), (12, .int (nI e))]) hC dL_arePupils_385 (by decide) rfl ?_
      refine pg_sub (vs' := [(0, .ref (x 12 2)), (1, .int (bx_sum (Z 0 7) 10)), (2, .int (bx_sum (Z 0 8) 10)), (3, .int (bx_sum (Z 0 6) 10)), (4, .int (bx_sum (fun j => if j % 2 = 0 then Z 0 12 (j / 2) else 0) 10)), (5, .int (bx_sum (Z 0 9) 10)), (6, .int (bx_sum (Z 0 10) 10)), (7, .int (bx_sum (fun j => sUP (Z 0) j) 10)), (8, .int 1), (9, .int ((bx_sum (fun j => sUS (Z 0) j) e) + (sUS (Z 0) e))), (10, .int ((bx_sum (Z 0 4) e) + (Z 0 4 e))), (11, .int (sWOs (Z 0) e)), (12, .int (nI e)), (13, .int 0), (14, .int (sUsers (Z 0) e)), (15, .int 0)]) [5, 6, 7, 8, 9, 10, 11, 12, 13, 2, 1, 14, 15, 4, 3, 0] rfl ?_
      refine pg_loop (pc := 387) (σ := Nat) (I := fun q => match q with | r => r ≤ 10) (μ := fun q => match q with | r => 10 - r) (VS := fun q => match q with | r => [(0, .ref (x 12 2)), (1, .int (bx_sum (Z 0 7) 10)), (2, .int (bx_sum (Z 0 8) 10)), (3, .int (bx_sum (Z 0 6) 10)), (4, .int (bx_sum (fun j => if j % 2 = 0 then Z 0 12 (j / 2) else 0) 10)), (5, .int (bx_sum (Z 0 9) 10)), (6, .int (bx_sum (Z 0 10) 10)), (7, .int (bx_sum (fun j => sUP (Z 0) j) 10)), (8, .int 1), (9, .int ((bx_sum (fun j => sUS (Z 0) j) e) + (sUS (Z 0) e))), (10, .int ((bx_sum (Z 0 4) e) + (Z 0 4 e))), (11, .int (sWOs (Z 0) e)), (12, .int (nI e)), (13, .int (bx_sum (fun j => sNov (Z 0) j e) r)), (14, .int (sUsers (Z 0) e)), (15, .int (nI r))]) (FF := fun q => match q with | r => f) ?_ (0) (Nat.zero_le _)
      intro q hI ih17
      obtain ⟨r, rfl⟩ : ∃ z, z = q := ⟨_, rfl⟩
      dsimp only at hI ih17 ⊢
      have hI2 := hI
      obtain hr := hI
      refine pg_iload (pc := 387) hC dL_arePupils_387 15 rfl ?_
      refine pg_bipush (pc := 389) (v := 10) hC dL_arePupils_389 (by decide) ?_
      refine pg_icmp_geN (pc := 391) hC 496 dL_arePupils_391 (by decide) (r) (10) rfl rfl (by omega) (by omega) (fun c18 => ?_) (fun c18 => ?_)
      · skip
        have e : r = 10 := by omega
        subst e
        refine pg_iload (pc := 496) hC dL_arePupils_496 11 rfl ?_
        refine pg_iload (pc := 498) hC dL_arePupils_498 13 rfl ?_
        refine pg_join (pc := 500) (σ := Unit) (fun _ => True) 509 (fun _ => [(0, .ref (x 12 2)), (1, .int (bx_sum (Z 0 7) 10)), (2, .int (bx_sum (Z 0 8) 10)), (3, .int (bx_sum (Z 0 6) 10)), (4, .int (bx_sum (fun j => if j % 2 = 0 then Z 0 12 (j / 2) else 0) 10)), (5, .int (bx_sum (Z 0 9) 10)), (6, .int (bx_sum (Z 0 10) 10)), (7, .int (bx_sum (fun j => sUP (Z 0) j) 10)), (8, .int 1), (9, .int ((bx_sum (fun j => sUS (Z 0) j) e) + (sUS (Z 0) e))), (10, .int ((bx_sum (Z 0 4) e) + (Z 0 4 e))), (11, .int (sWOs (Z 0) e)), (12, .int (nI e)), (13, .int (bx_sum (fun j => sNov (Z 0) j e) 10)), (14, .int (sUsers (Z 0) e)), (15, .int (nI 10))]) (fun _ => [.int (sWOs (Z 0) (e + 1))]) (fun _ => f) ?_ (fun j19 => ?_)
        · skip
          intro _ _
          try dsimp only
          refine pg_istore (pc := 509) (vs' := [(11, .int (sWOs (Z 0) (e + 1))), (0, .ref (x 12 2)), (1, .int (bx_sum (Z 0 7) 10)), (2, .int (bx_sum (Z 0 8) 10)), (3, .int (bx_sum (Z 0 6) 10)), (4, .int (bx_sum (fun j => if j % 2 = 0 then Z 0 12 (j / 2) else 0) 10)), (5, .int (bx_sum (Z 0 9) 10)), (6, .int (bx_sum (Z 0 10) 10)), (7, .int (bx_sum (fun j => sUP (Z 0) j) 10)), (8, .int 1), (9, .int ((bx_sum (fun j => sUS (Z 0) j) e) + (sUS (Z 0) e))), (10, .int ((bx_sum (Z 0 4) e) + (Z 0 4 e))), (12, .int (nI e)), (13, .int (bx_sum (fun j => sNov (Z 0) j e) 10)), (14, .int (sUsers (Z 0) e)), (15, .int (nI 10))]) hC dL_arePupils_509 (by decide) rfl ?_
          refine pg_iload (pc := 511) hC dL_arePupils_511 9 rfl ?_
          refine pg_if_eq (pc := 513) hC 631 dL_arePupils_513 (by decide)  (fun c20 => False.elim (absurd c20 (by decide))) (fun c20 => ?_)
          refine pg_aload_n (pc := 516) hC dL_arePupils_516 1 rfl rfl ?_
          refine pg_iload (pc := 517) hC dL_arePupils_517 12 rfl ?_
          refine pg_iconst (pc := 519) (v := 0) hC dL_arePupils_519 (by decide) ?_
          refine pg_callVYi (pc := 520) (As := [.int (nI e), .int 0]) (rest := []) (v2 := Z 0 2 e) hC dL_arePupils_520 (cX4_excuse_c l hok n hn hn12 (nI e) 0) (tE0 hn (by omega) (by omega)) (cwV 2 hC.2.2.2.2.1 gL_arePupils_X4_excuse rfl rfl rfl (by decide +kernel) ⟨Nat.le_of_ble_eq_true rfl, Nat.le_of_ble_eq_true rfl⟩) (ok_mem hok (by decide)) (ok_Xo hok) rfl rfl rfl rfl (Nat.le_of_ble_eq_true rfl) (Nat.zero_le _) (Nat.zero_le _) ?_
          refine pg_if_lt (pc := 523) hC 631 dL_arePupils_523 (by decide)  (fun c21 => False.elim (b1 c21)) (fun c21 => ?_)
          refine pg_aload_n (pc := 526) hC dL_arePupils_526 1 rfl rfl ?_
          refine pg_iload (pc := 527) hC dL_arePupils_527 12 rfl ?_
          refine pg_iconst (pc := 529) (v := 0) hC dL_arePupils_529 (by decide) ?_
          refine pg_callVYi (pc := 530) (As := [.int (nI e), .int 0]) (rest := []) (v2 := Z 0 2 e) hC dL_arePupils_530 (cX4_excuse_c l hok n hn hn12 (nI e) 0) (tE0 hn (by omega) (by omega)) (cwV 2 hC.2.2.2.2.1 gL_arePupils_X4_excuse rfl rfl rfl (by decide +kernel) ⟨Nat.le_of_ble_eq_true rfl, Nat.le_of_ble_eq_true rfl⟩) (ok_mem hok (by decide)) (ok_Xo hok) rfl rfl rfl rfl (Nat.le_of_ble_eq_true rfl) (Nat.zero_le _) (Nat.zero_le _) ?_
          refine pg_iconst (pc := 533) (v := 5) hC dL_arePupils_533 (by decide) ?_
          refine pg_icmp_ge (pc := 534) hC 631 dL_arePupils_534 (by decide)  (fun c22 => False.elim (b2 c22)) (fun c22 => ?_)
          refine pg_aload_n (pc := 537) hC dL_arePupils_537 1 rfl rfl ?_
          refine pg_iload (pc := 538) hC dL_arePupils_538 12 rfl ?_
          refine pg_iconst (pc := 540) (v := 1) hC dL_arePupils_540 (by decide) ?_
          refine pg_callVYi (pc := 541) (As := [.int (nI e), .int 1]) (rest := []) (v2 := Z 0 3 e) hC dL_arePupils_541 (cX4_excuse_c l hok n hn hn12 (nI e) 1) (tE1 hn (by omega) (by omega)) (cwV 2 hC.2.2.2.2.1 gL_arePupils_X4_excuse rfl rfl rfl (by decide +kernel) ⟨Nat.le_of_ble_eq_true rfl, Nat.le_of_ble_eq_true rfl⟩) (ok_mem hok (by decide)) (ok_Xo hok) rfl rfl rfl rfl (Nat.le_of_ble_eq_true rfl) (Nat.zero_le _) (Nat.zero_le _) ?_
          refine pg_if_le (pc := 544) hC 631 dL_arePupils_544 (by decide)  (fun c23 => False.elim (b3 c23)) (fun c23 => ?_)
          refine pg_aload_n (pc := 547) hC dL_arePupils_547 1 rfl rfl ?_
          refine pg_iload (pc := 548) hC dL_arePupils_548 12 rfl ?_
          refine pg_iconst (pc := 550) (v := 1) hC dL_arePupils_550 (by decide) ?_
          refine pg_callVYi (pc := 551) (As := [.int (nI e), .int 1]) (rest := []) (v2 := Z 0 3 e) hC dL_arePupils_551 (cX4_excuse_c l hok n hn hn12 (nI e) 1) (tE1 hn (by omega) (by omega)) (cwV 2 hC.2.2.2.2.1 gL_arePupils_X4_excuse rfl rfl rfl (by decide +kernel) ⟨Nat.le_of_ble_eq_true rfl, Nat.le_of_ble_eq_true rfl⟩) (ok_mem hok (by decide)) (ok_Xo hok) rfl rfl rfl rfl (Nat.le_of_ble_eq_true rfl) (Nat.zero_le _) (Nat.zero_le _) ?_
          refine pg_bipush (pc := 554) (v := 100) hC dL_arePupils_554 (by decide) ?_
          refine pg_icmp_ge (pc := 556) hC 631 dL_arePupils_556 (by decide)  (fun c24 => False.elim (b4 c24)) (fun c24 => ?_)
          refine pg_aload_n (pc := 559) hC dL_arePupils_559 1 rfl rfl ?_
          refine pg_iload (pc := 560) hC dL_arePupils_560 12 rfl ?_
          refine pg_iconst (pc := 562) (v := 2) hC dL_arePupils_562 (by decide) ?_
          refine pg_callVYi (pc := 563) (As := [.int (nI e), .int 2]) (rest := []) (v2 := sUS (Z 0) e) hC dL_arePupils_563 (cX4_excuse_c l hok n hn hn12 (nI e) 2) (tE2 hn (by omega) (by omega)) (cwV 2 hC.2.2.2.2.1 gL_arePupils_X4_excuse rfl rfl rfl (by decide +kernel) ⟨Nat.le_of_ble_eq_true rfl, Nat.le_of_ble_eq_true rfl⟩) (ok_mem hok (by decide)) (ok_Xo hok) rfl rfl rfl rfl (Nat.le_of_ble_eq_true rfl) (Nat.zero_le _) (Nat.zero_le _) ?_
          refine pg_aload_n (pc := 566) hC dL_arePupils_566 1 rfl rfl ?_
          refine pg_iload (pc := 567) hC dL_arePupils_567 12 rfl ?_
          refine pg_iconst (pc := 569) (v := 3) hC dL_arePupils_569 (by decide) ?_
          refine pg_callVYi (pc := 570) (As := [.int (nI e), .int 3]) (rest := [.int (sUS (Z 0) e)]) (v2 := Z 0 4 e) hC dL_arePupils_570 (cX4_excuse_c l hok n hn hn12 (nI e) 3) (tE3 hn (by omega) (by omega)) (cwV 2 hC.2.2.2.2.1 gL_arePupils_X4_excuse rfl rfl rfl (by decide +kernel) ⟨Nat.le_of_ble_eq_true rfl, Nat.le_of_ble_eq_true rfl⟩) (ok_mem hok (by decide)) (ok_Xo hok) rfl rfl rfl rfl (Nat.le_of_ble_eq_true rfl) (Nat.zero_le _) (Nat.zero_le _) ?_
          refine pg_icmp_gt (pc := 573) hC 631 dL_arePupils_573 (by decide)  (fun c25 => False.elim (b5 c25)) (fun c25 => ?_)
          refine pg_iload (pc := 576) hC dL_arePupils_576 14 rfl ?_
          refine pg_top (pc := 578) (x' := nI ms) m2 ?_
          refine pg_callSRi (pc := 578) (As := [.int (nI ms)]) (rest := []) hC dL_arePupils_578 (cL_size_c l ms m1) (va_cwS 1 hC.2.2.2.2.1 gL_arePupils_L_size rfl rfl rfl (by decide +kernel) ⟨Nat.le_of_ble_eq_true rfl, Nat.le_of_ble_eq_true rfl⟩) rfl rfl (Nat.le_of_ble_eq_true rfl) (Nat.zero_le _) (Nat.zero_le _) ?_
          refine pg_aload_n (pc := 581) hC dL_arePupils_581 1 rfl rfl ?_
          refine pg_iload (pc := 582) hC dL_arePupils_582 12 rfl ?_
          refine pg_iconst (pc := 584) (v := 2) hC dL_arePupils_584 (by decide) ?_
          refine pg_callVYi (pc := 585) (As := [.int (nI e), .int 2]) (rest := [.int (nI (pcN ms))]) (v2 := sUS (Z 0) e) hC dL_arePupils_585 (cX4_excuse_c l hok n hn hn12 (nI e) 2) (tE2 hn (by omega) (by omega)) (cwV 2 hC.2.2.2.2.1 gL_arePupils_X4_excuse rfl rfl rfl (by decide +kernel) ⟨Nat.le_of_ble_eq_true rfl, Nat.le_of_ble_eq_true rfl⟩) (ok_mem hok (by decide)) (ok_Xo hok) rfl rfl rfl rfl (Nat.le_of_ble_eq_true rfl) (Nat.zero_le _) (Nat.zero_le _) ?_
          refine pg_icmp_gt (pc := 588) hC 631 dL_arePupils_588 (by decide)  (fun c26 => False.elim (m3 c26)) (fun c26 => ?_)
          refine pg_iload (pc := 591) hC dL_arePupils_591 14 rfl ?_
          refine pg_join (pc := 593) (σ := Unit) (fun _ => True) 619 (fun _ => [(11, .int (sWOs (Z 0) (e + 1))), (0, .ref (x 12 2)), (1, .int (bx_sum (Z 0 7) 10)), (2, .int (bx_sum (Z 0 8) 10)), (3, .int (bx_sum (Z 0 6) 10)), (4, .int (bx_sum (fun j => if j % 2 = 0 then Z 0 12 (j / 2) else 0) 10)), (5, .int (bx_sum (Z 0 9) 10)), (6, .int (bx_sum (Z 0 10) 10)), (7, .int (bx_sum (fun j => sUP (Z 0) j) 10)), (8, .int 1), (9, .int ((bx_sum (fun j => sUS (Z 0) j) e) + (sUS (Z 0) e))), (10, .int ((bx_sum (Z 0 4) e) + (Z 0 4 e))), (12, .int (nI e)), (13, .int (bx_sum (fun j => sNov (Z 0) j e) 10)), (14, .int (sUsers (Z 0) e)), (15, .int (nI 10))]) (fun _ => []) (fun _ => f) ?_ (fun j27 => ?_)
          · skip
            intro _ _
            try dsimp only
            refine pg_iload (pc := 619) hC dL_arePupils_619 14 rfl ?_
            refine pg_sipush (pc := 621) (v := 1024) hC dL_arePupils_621 (by decide) ?_
            refine pg_icmp_ge (pc := 624) hC 631 dL_arePupils_624 (by decide)  (fun c28 => False.elim (m5 c28)) (fun c28 => ?_)
            refine pg_iconst (pc := 627) (v := 1) hC dL_arePupils_627 (by decide) ?_
            refine pg_goto (pc := 628) hC 632 dL_arePupils_628 (by decide) ?_
            refine pg_istore (pc := 632) (vs' := [(8, .int 1), (11, .int (sWOs (Z 0) (e + 1))), (0, .ref (x 12 2)), (1, .int (bx_sum (Z 0 7) 10)), (2, .int (bx_sum (Z 0 8) 10)), (3, .int (bx_sum (Z 0 6) 10)), (4, .int (bx_sum (fun j => if j % 2 = 0 then Z 0 12 (j / 2) else 0) 10)), (5, .int (bx_sum (Z 0 9) 10)), (6, .int (bx_sum (Z 0 10) 10)), (7, .int (bx_sum (fun j => sUP (Z 0) j) 10)), (9, .int ((bx_sum (fun j => sUS (Z 0) j) e) + (sUS (Z 0) e))), (10, .int ((bx_sum (Z 0 4) e) + (Z 0 4 e))), (12, .int (nI e)), (13, .int (bx_sum (fun j => sNov (Z 0) j e) 10)), (14, .int (sUsers (Z 0) e)), (15, .int (nI 10))]) hC dL_arePupils_632 (by decide) rfl ?_
            refine pg_iinc (pc := 634) (v := nI (e + 1)) (vs' := [(12, .int (nI (e + 1))), (8, .int 1), (11, .int (sWOs (Z 0) (e + 1))), (0, .ref (x 12 2)), (1, .int (bx_sum (Z 0 7) 10)), (2, .int (bx_sum (Z 0 8) 10)), (3, .int (bx_sum (Z 0 6) 10)), (4, .int (bx_sum (fun j => if j % 2 = 0 then Z 0 12 (j / 2) else 0) 10)), (5, .int (bx_sum (Z 0 9) 10)), (6, .int (bx_sum (Z 0 10) 10)), (7, .int (bx_sum (fun j => sUP (Z 0) j) 10)), (9, .int ((bx_sum (fun j => sUS (Z 0) j) e) + (sUS (Z 0) e))), (10, .int ((bx_sum (Z 0 4) e) + (Z 0 4 e))), (13, .int (bx_sum (fun j => sNov (Z 0) j e) 10)), (14, .int (sUsers (Z 0) e)), (15, .int (nI 10))]) hC dL_arePupils_634 12 rfl (nI_add (e) 1) (by decide) rfl ?_
            refine pg_goto (pc := 637) hC 333 dL_arePupils_637 (by decide) ?_
            refine pg_sub (vs' := [(0, .ref (x 12 2)), (1, .int (bx_sum (Z 0 7) 10)), (2, .int (bx_sum (Z 0 8) 10)), (3, .int (bx_sum (Z 0 6) 10)), (4, .int (bx_sum (fun j => if j % 2 = 0 then Z 0 12 (j / 2) else 0) 10)), (5, .int (bx_sum (Z 0 9) 10)), (6, .int (bx_sum (Z 0 10) 10)), (7, .int (bx_sum (fun j => sUP (Z 0) j) 10)), (8, .int 1), (9, .int ((bx_sum (fun j => sUS (Z 0) j) e) + (sUS (Z 0) e))), (10, .int ((bx_sum (Z 0 4) e) + (Z 0 4 e))), (11, .int (sWOs (Z 0) (e + 1))), (12, .int (nI (e + 1)))]) [3, 4, 5, 6, 7, 8, 9, 10, 1, 11, 12, 2, 0] rfl ?_
            refine pg_vs (vs' := [(0, .ref (x 12 2)), (1, .int (bx_sum (Z 0 7) 10)), (2, .int (bx_sum (Z 0 8) 10)), (3, .int (bx_sum (Z 0 6) 10)), (4, .int (bx_sum (fun j => if j % 2 = 0 then Z 0 12 (j / 2) else 0) 10)), (5, .int (bx_sum (Z 0 9) 10)), (6, .int (bx_sum (Z 0 10) 10)), (7, .int (bx_sum (fun j => sUP (Z 0) j) 10)), (8, .int 1), (9, .int (bx_sum (fun j => sUS (Z 0) j) (e + 1))), (10, .int (bx_sum (Z 0 4) (e + 1))), (11, .int (sWOs (Z 0) (e + 1))), (12, .int (nI (e + 1)))]) (by rfl) ?_
            exact ih3 (e + 1) (by omega) (by omega)
          refine pg_if_ne (pc := 593) hC 600 dL_arePupils_593 (by decide)  (fun c29 => ?_) (fun c29 => ?_)
          · skip
            refine pg_iconst (pc := 600) (v := 0) hC dL_arePupils_600 (by decide) ?_
            refine pg_aload_n (pc := 601) hC dL_arePupils_601 1 rfl rfl ?_
            refine pg_iload (pc := 602) hC dL_arePupils_602 12 rfl ?_
            refine pg_iconst (pc := 604) (v := 2) hC dL_arePupils_604 (by decide) ?_
            refine pg_callVYi (pc := 605) (As := [.int (nI e), .int 2]) (rest := [.int 0]) (v2 := sUS (Z 0) e) hC dL_arePupils_605 (cX4_excuse_c l hok n hn hn12 (nI e) 2) (tE2 hn (by omega) (by omega)) (cwV 2 hC.2.2.2.2.1 gL_arePupils_X4_excuse rfl rfl rfl (by decide +kernel) ⟨Nat.le_of_ble_eq_true rfl, Nat.le_of_ble_eq_true rfl⟩) (ok_mem hok (by decide)) (ok_Xo hok) rfl rfl rfl rfl (Nat.le_of_ble_eq_true rfl) (Nat.zero_le _) (Nat.zero_le _) ?_
            refine pg_if_ne (pc := 608) hC 615 dL_arePupils_608 (by decide)  (fun c30 => ?_) (fun c30 => False.elim (c29 (m4.mpr c30)))
            refine pg_iconst (pc := 615) (v := 0) hC dL_arePupils_615 (by decide) ?_
            refine pg_icmp_neN (pc := 616) hC 631 dL_arePupils_616 (by decide) (0) (0) rfl rfl (by omega) (by omega) (fun c31 => False.elim (absurd rfl c31)) (fun c31 => ?_)
            exact j27 () trivial
          · skip
            refine pg_iconst (pc := 596) (v := 1) hC dL_arePupils_596 (by decide) ?_
            refine pg_goto (pc := 597) hC 601 dL_arePupils_597 (by decide) ?_
            refine pg_aload_n (pc := 601) hC dL_arePupils_601 1 rfl rfl ?_
            refine pg_iload (pc := 602) hC dL_arePupils_602 12 rfl ?_
            refine pg_iconst (pc := 604) (v := 2) hC dL_arePupils_604 (by decide) ?_
            refine pg_callVYi (pc := 605) (As := [.int (nI e), .int 2]) (rest := [.int 1]) (v2 := sUS (Z 0) e) hC dL_arePupils_605 (cX4_excuse_c l hok n hn hn12 (nI e) 2) (tE2 hn (by omega) (by omega)) (cwV 2 hC.2.2.2.2.1 gL_arePupils_X4_excuse rfl rfl rfl (by decide +kernel) ⟨Nat.le_of_ble_eq_true rfl, Nat.le_of_ble_eq_true rfl⟩) (ok_mem hok (by decide)) (ok_Xo hok) rfl rfl rfl rfl (Nat.le_of_ble_eq_true rfl) (Nat.zero_le _) (Nat.zero_le _) ?_
            refine pg_if_ne (pc := 608) hC 615 dL_arePupils_608 (by decide)  (fun c32 => False.elim (c32 (m4.mp c29))) (fun c32 => ?_)
            refine pg_iconst (pc := 611) (v := 1) hC dL_arePupils_611 (by decide) ?_
            refine pg_goto (pc := 612) hC 616 dL_arePupils_612 (by decide) ?_
            refine pg_icmp_neN (pc := 616) hC 631 dL_arePupils_616 (by decide) (1) (1) rfl rfl (by omega) (by omega) (fun c33 => False.elim (absurd rfl c33)) (fun c33 => ?_)
            exact j27 () trivial
        refine pg_if_ne (pc := 500) hC 507 dL_arePupils_500 (by decide)  (fun c34 => ?_) (fun c34 => ?_)
        · skip
          refine pg_iconst (pc := 507) (v := 0) hC dL_arePupils_507 (by decide) ?_
          refine pg_iadd (pc := 508) (v := (sWOs (Z 0) e) + 0) hC dL_arePupils_508 rfl ?_
          refine pg_top (pc := 509) (x' := sWOs (Z 0) (e + 1)) (ap_wo0 h hK he12 c34) ?_
          exact j19 () trivial
        · skip
          refine pg_iconst (pc := 503) (v := 1) hC dL_arePupils_503 (by decide) ?_
          refine pg_goto (pc := 504) hC 508 dL_arePupils_504 (by decide) ?_
          refine pg_iadd (pc := 508) (v := (sWOs (Z 0) e) + 1) hC dL_arePupils_508 rfl ?_
          refine pg_top (pc := 509) (x' := sWOs (Z 0) (e + 1)) (ap_wo1 h hK he12 c34) ?_
          exact j19 () trivial
      · skip
        obtain ⟨d1, d2, d3, d4⟩ := ap_q h hK (p := r) (e := e) (by omega) he12
        refine pg_iload (pc := 394) hC dL_arePupils_394 8 rfl ?_
        refine pg_if_eq (pc := 396) hC 496 dL_arePupils_396 (by decide)  (fun c35 => False.elim (absurd c35 (by decide))) (fun c35 => ?_)
        refine pg_aload_n (pc := 399) hC dL_arePupils_399 0 rfl rfl ?_
        refine pg_iload (pc := 400) hC dL_arePupils_400 15 rfl ?_
        refine pg_iload (pc := 402) hC dL_arePupils_402 12 rfl ?_
        refine pg_callVYi (pc := 404) (As := [.int (nI r), .int (nI e)]) (rest := []) (v2 := sNov (Z 0) r e) hC dL_arePupils_404 (cX4_novelty_c l hok n hn hn12 (nI r) (nI e)) (tNv hn (by omega) (by omega) (by omega)) (cwV 2 hC.2.2.2.2.1 gL_arePupils_X4_novelty rfl rfl rfl (by decide +kernel) ⟨Nat.le_of_ble_eq_true rfl, Nat.le_of_ble_eq_true rfl⟩) (ok_mem hok (by decide)) (ok_Xo hok) rfl rfl rfl rfl (Nat.le_of_ble_eq_true rfl) (Nat.zero_le _) (Nat.zero_le _) ?_
        refine pg_istore (pc := 407) (vs' := [(16, .int (sNov (Z 0) r e)), (0, .ref (x 12 2)), (1, .int (bx_sum (Z 0 7) 10)), (2, .int (bx_sum (Z 0 8) 10)), (3, .int (bx_sum (Z 0 6) 10)), (4, .int (bx_sum (fun j => if j % 2 = 0 then Z 0 12 (j / 2) else 0) 10)), (5, .int (bx_sum (Z 0 9) 10)), (6, .int (bx_sum (Z 0 10) 10)), (7, .int (bx_sum (fun j => sUP (Z 0) j) 10)), (8, .int 1), (9, .int ((bx_sum (fun j => sUS (Z 0) j) e) + (sUS (Z 0) e))), (10, .int ((bx_sum (Z 0 4) e) + (Z 0 4 e))), (11, .int (sWOs (Z 0) e)), (12, .int (nI e)), (13, .int (bx_sum (fun j => sNov (Z 0) j e) r)), (14, .int (sUsers (Z 0) e)), (15, .int (nI r))]) hC dL_arePupils_407 (by decide) rfl ?_
        refine pg_iload (pc := 409) hC dL_arePupils_409 14 rfl ?_
        refine pg_iload (pc := 411) hC dL_arePupils_411 0 rfl ?_
        refine pg_iadd (pc := 413) (v := (bx_sum (fun j => sNov (Z 0) j e) r) + (sNov (Z 0) r e)) hC dL_arePupils_413 rfl ?_
        refine pg_istore (pc := 414) (vs' := [(13, .int ((bx_sum (fun j => sNov (Z 0) j e) r) + (sNov (Z 0) r e))), (16, .int (sNov (Z 0) r e)), (0, .ref (x 12 2)), (1, .int (bx_sum (Z 0 7) 10)), (2, .int (bx_sum (Z 0 8) 10)), (3, .int (bx_sum (Z 0 6) 10)), (4, .int (bx_sum (fun j => if j % 2 = 0 then Z 0 12 (j / 2) else 0) 10)), (5, .int (bx_sum (Z 0 9) 10)), (6, .int (bx_sum (Z 0 10) 10)), (7, .int (bx_sum (fun j => sUP (Z 0) j) 10)), (8, .int 1), (9, .int ((bx_sum (fun j => sUS (Z 0) j) e) + (sUS (Z 0) e))), (10, .int ((bx_sum (Z 0 4) e) + (Z 0 4 e))), (11, .int (sWOs (Z 0) e)), (12, .int (nI e)), (14, .int (sUsers (Z 0) e)), (15, .int (nI r))]) hC dL_arePupils_414 (by decide) rfl ?_
        refine pg_iload (pc := 416) hC dL_arePupils_416 1 rfl ?_
        refine pg_if_lt (pc := 418) hC 487 dL_arePupils_418 (by decide)  (fun c36 => False.elim (d1 c36)) (fun c36 => ?_)
        refine pg_iload (pc := 421) hC dL_arePupils_421 1 rfl ?_
        refine pg_bipush (pc := 423) (v := 100) hC dL_arePupils_423 (by decide) ?_
        refine pg_icmp_gt (pc := 425) hC 487 dL_arePupils_425 (by decide)  (fun c37 => False.elim (d2 c37)) (fun c37 => ?_)
        refine pg_iload (pc := 428) hC dL_arePupils_428 1 rfl ?_
        refine pg_aload_n (pc := 430) hC dL_arePupils_430 2 rfl rfl ?_
        refine pg_iload (pc := 431) hC dL_arePupils_431 16 rfl ?_
        refine pg_iload (pc := 433) hC dL_arePupils_433 16 rfl ?_
        refine pg_iconst (pc := 435) (v := 2) hC dL_arePupils_435 (by decide) ?_
        refine pg_irem (pc := 436) (v := nI (r % 2)) hC dL_arePupils_436 (by decide) (pk_rem (a := r) (d := 2) (by omega) (by omega) (by omega)) ?_
        refine pg_isub (pc := 437) (v := nI (r - (r % 2))) hC dL_arePupils_437 (pk_sub (a := r) (b := r % 2) (by omega)) ?_
        refine pg_iload (pc := 438) hC dL_arePupils_438 14 rfl ?_
        refine pg_callVYi (pc := 440) (As := [.int (nI (r - (r % 2))), .int (nI e)]) (rest := [.int (sNov (Z 0) r e)]) (v2 := sNov (Z 0) r e) hC dL_arePupils_440 (cX4_novelty_c l hok n hn hn12 (nI (r - (r % 2))) (nI e)) ((tNv hn (by omega) (by omega) (by omega)).trans (by unfold sNov; rw [show (r - (r % 2)) / 2 = r / 2 by omega])) (cwV 2 hC.2.2.2.2.1 gL_arePupils_X4_novelty rfl rfl rfl (by decide +kernel) ⟨Nat.le_of_ble_eq_true rfl, Nat.le_of_ble_eq_true rfl⟩) (ok_mem hok (by decide)) (ok_Xo hok) rfl rfl rfl rfl (Nat.le_of_ble_eq_true rfl) (Nat.zero_le _) (Nat.zero_le _) ?_
        refine pg_icmp_ne (pc := 443) hC 487 dL_arePupils_443 (by decide)  (fun c38 => False.elim (c38 rfl)) (fun c38 => ?_)
        refine pg_aload_n (pc := 446) hC dL_arePupils_446 2 rfl rfl ?_
        refine pg_iload (pc := 447) hC dL_arePupils_447 14 rfl ?_
        refine pg_iconst (pc := 449) (v := 2) hC dL_arePupils_449 (by decide) ?_
        refine pg_callVYi (pc := 450) (As := [.int (nI e), .int 2]) (rest := []) (v2 := sUS (Z 0) e) hC dL_arePupils_450 (cX4_excuse_c l hok n hn hn12 (nI e) 2) (tE2 hn (by omega) (by omega)) (cwV 2 hC.2.2.2.2.1 gL_arePupils_X4_excuse rfl rfl rfl (by decide +kernel) ⟨Nat.le_of_ble_eq_true rfl, Nat.le_of_ble_eq_true rfl⟩) (ok_mem hok (by decide)) (ok_Xo hok) rfl rfl rfl rfl (Nat.le_of_ble_eq_true rfl) (Nat.zero_le _) (Nat.zero_le _) ?_
        refine pg_join (pc := 453) (σ := Unit) (fun _ => True) 463 (fun _ => [(13, .int ((bx_sum (fun j => sNov (Z 0) j e) r) + (sNov (Z 0) r e))), (16, .int (sNov (Z 0) r e)), (0, .ref (x 12 2)), (1, .int (bx_sum (Z 0 7) 10)), (2, .int (bx_sum (Z 0 8) 10)), (3, .int (bx_sum (Z 0 6) 10)), (4, .int (bx_sum (fun j => if j % 2 = 0 then Z 0 12 (j / 2) else 0) 10)), (5, .int (bx_sum (Z 0 9) 10)), (6, .int (bx_sum (Z 0 10) 10)), (7, .int (bx_sum (fun j => sUP (Z 0) j) 10)), (8, .int 1), (9, .int ((bx_sum (fun j => sUS (Z 0) j) e) + (sUS (Z 0) e))), (10, .int ((bx_sum (Z 0 4) e) + (Z 0 4 e))), (11, .int (sWOs (Z 0) e)), (12, .int (nI e)), (14, .int (sUsers (Z 0) e)), (15, .int (nI r))]) (fun _ => []) (fun _ => f) ?_ (fun j39 => ?_)
        · skip
          intro _ _
          try dsimp only
          refine pg_iload (pc := 463) hC dL_arePupils_463 15 rfl ?_
          refine pg_iload (pc := 465) hC dL_arePupils_465 16 rfl ?_
          refine pg_ishr (pc := 467) (v := (sUsers (Z 0) e) >>> ((nI r) &&& 31)) hC dL_arePupils_467 rfl ?_
          refine pg_iconst (pc := 468) (v := 1) hC dL_arePupils_468 (by decide) ?_
          refine pg_iand (pc := 469) (v := ((sUsers (Z 0) e) >>> ((nI r) &&& 31)) &&& 1) hC dL_arePupils_469 rfl ?_
          refine pg_join (pc := 470) (σ := Unit) (fun _ => True) 483 (fun _ => [(13, .int ((bx_sum (fun j => sNov (Z 0) j e) r) + (sNov (Z 0) r e))), (16, .int (sNov (Z 0) r e)), (0, .ref (x 12 2)), (1, .int (bx_sum (Z 0 7) 10)), (2, .int (bx_sum (Z 0 8) 10)), (3, .int (bx_sum (Z 0 6) 10)), (4, .int (bx_sum (fun j => if j % 2 = 0 then Z 0 12 (j / 2) else 0) 10)), (5, .int (bx_sum (Z 0 9) 10)), (6, .int (bx_sum (Z 0 10) 10)), (7, .int (bx_sum (fun j => sUP (Z 0) j) 10)), (8, .int 1), (9, .int ((bx_sum (fun j => sUS (Z 0) j) e) + (sUS (Z 0) e))), (10, .int ((bx_sum (Z 0 4) e) + (Z 0 4 e))), (11, .int (sWOs (Z 0) e)), (12, .int (nI e)), (14, .int (sUsers (Z 0) e)), (15, .int (nI r))]) (fun _ => []) (fun _ => f) ?_ (fun j40 => ?_)
          · skip
            intro _ _
            try dsimp only
            refine pg_iconst (pc := 483) (v := 1) hC dL_arePupils_483 (by decide) ?_
            refine pg_goto (pc := 484) hC 488 dL_arePupils_484 (by decide) ?_
            refine pg_istore (pc := 488) (vs' := [(8, .int 1), (13, .int ((bx_sum (fun j => sNov (Z 0) j e) r) + (sNov (Z 0) r e))), (16, .int (sNov (Z 0) r e)), (0, .ref (x 12 2)), (1, .int (bx_sum (Z 0 7) 10)), (2, .int (bx_sum (Z 0 8) 10)), (3, .int (bx_sum (Z 0 6) 10)), (4, .int (bx_sum (fun j => if j % 2 = 0 then Z 0 12 (j / 2) else 0) 10)), (5, .int (bx_sum (Z 0 9) 10)), (6, .int (bx_sum (Z 0 10) 10)), (7, .int (bx_sum (fun j => sUP (Z 0) j) 10)), (9, .int ((bx_sum (fun j => sUS (Z 0) j) e) + (sUS (Z 0) e))), (10, .int ((bx_sum (Z 0 4) e) + (Z 0 4 e))), (11, .int (sWOs (Z 0) e)), (12, .int (nI e)), (14, .int (sUsers (Z 0) e)), (15, .int (nI r))]) hC dL_arePupils_488 (by decide) rfl ?_
            refine pg_iinc (pc := 490) (v := nI (r + 1)) (vs' := [(15, .int (nI (r + 1))), (8, .int 1), (13, .int ((bx_sum (fun j => sNov (Z 0) j e) r) + (sNov (Z 0) r e))), (16, .int (sNov (Z 0) r e)), (0, .ref (x 12 2)), (1, .int (bx_sum (Z 0 7) 10)), (2, .int (bx_sum (Z 0 8) 10)), (3, .int (bx_sum (Z 0 6) 10)), (4, .int (bx_sum (fun j => if j % 2 = 0 then Z 0 12 (j / 2) else 0) 10)), (5, .int (bx_sum (Z 0 9) 10)), (6, .int (bx_sum (Z 0 10) 10)), (7, .int (bx_sum (fun j => sUP (Z 0) j) 10)), (9, .int ((bx_sum (fun j => sUS (Z 0) j) e) + (sUS (Z 0) e))), (10, .int ((bx_sum (Z 0 4) e) + (Z 0 4 e))), (11, .int (sWOs (Z 0) e)), (12, .int (nI e)), (14, .int (sUsers (Z 0) e))]) hC dL_arePupils_490 16 rfl (nI_add (r) 1) (by decide) rfl ?_
            refine pg_goto (pc := 493) hC 387 dL_arePupils_493 (by decide) ?_
            refine pg_sub (vs' := [(0, .ref (x 12 2)), (1, .int (bx_sum (Z 0 7) 10)), (2, .int (bx_sum (Z 0 8) 10)), (3, .int (bx_sum (Z 0 6) 10)), (4, .int (bx_sum (fun j => if j % 2 = 0 then Z 0 12 (j / 2) else 0) 10)), (5, .int (bx_sum (Z 0 9) 10)), (6, .int (bx_sum (Z 0 10) 10)), (7, .int (bx_sum (fun j => sUP (Z 0) j) 10)), (8, .int 1), (9, .int ((bx_sum (fun j => sUS (Z 0) j) e) + (sUS (Z 0) e))), (10, .int ((bx_sum (Z 0 4) e) + (Z 0 4 e))), (11, .int (sWOs (Z 0) e)), (12, .int (nI e)), (13, .int ((bx_sum (fun j => sNov (Z 0) j e) r) + (sNov (Z 0) r e))), (14, .int (sUsers (Z 0) e)), (15, .int (nI (r + 1)))]) [4, 5, 6, 7, 8, 9, 10, 11, 1, 12, 13, 14, 15, 2, 16, 0] rfl ?_
            refine pg_vs (vs' := [(0, .ref (x 12 2)), (1, .int (bx_sum (Z 0 7) 10)), (2, .int (bx_sum (Z 0 8) 10)), (3, .int (bx_sum (Z 0 6) 10)), (4, .int (bx_sum (fun j => if j % 2 = 0 then Z 0 12 (j / 2) else 0) 10)), (5, .int (bx_sum (Z 0 9) 10)), (6, .int (bx_sum (Z 0 10) 10)), (7, .int (bx_sum (fun j => sUP (Z 0) j) 10)), (8, .int 1), (9, .int ((bx_sum (fun j => sUS (Z 0) j) e) + (sUS (Z 0) e))), (10, .int ((bx_sum (Z 0 4) e) + (Z 0 4 e))), (11, .int (sWOs (Z 0) e)), (12, .int (nI e)), (13, .int (bx_sum (fun j => sNov (Z 0) j e) (r + 1))), (14, .int (sUsers (Z 0) e)), (15, .int (nI (r + 1)))]) (by rfl) ?_
            exact ih17 (r + 1) (by omega) (by omega)
          refine pg_if_eq (pc := 470) hC 483 dL_arePupils_470 (by decide)  (fun c41 => ?_) (fun c41 => ?_)
          · skip
            exact j40 () trivial
          · skip
            have d4f := d4 c41
            refine pg_aload_n (pc := 473) hC dL_arePupils_473 2 rfl rfl ?_
            refine pg_iload (pc := 474) hC dL_arePupils_474 16 rfl ?_
            refine pg_iconst (pc := 476) (v := 5) hC dL_arePupils_476 (by decide) ?_
            refine pg_callVYi (pc := 477) (As := [.int (nI r), .int 5]) (rest := []) (v2 := sUP (Z 0) r) hC dL_arePupils_477 (cX4_pupil_c l hok (nI r) 5) (tP5 (by omega)) (cwV 2 hC.2.2.2.2.1 gL_arePupils_X4_pupil rfl rfl rfl (by decide +kernel) ⟨Nat.le_of_ble_eq_true rfl, Nat.le_of_ble_eq_true rfl⟩) (ok_mem hok (by decide)) (ok_Xo hok) rfl rfl rfl rfl (Nat.le_of_ble_eq_true rfl) (Nat.zero_le _) (Nat.zero_le _) ?_
            refine pg_if_le (pc := 480) hC 487 dL_arePupils_480 (by decide)  (fun c42 => False.elim (d4f c42)) (fun c42 => ?_)
            exact j40 () trivial
        refine pg_if_gt (pc := 453) hC 463 dL_arePupils_453 (by decide)  (fun c43 => ?_) (fun c43 => ?_)
        · skip
          exact j39 () trivial
        · skip
          have d3f := d3 c43
          refine pg_iload (pc := 456) hC dL_arePupils_456 1 rfl ?_
          refine pg_bipush (pc := 458) (v := 100) hC dL_arePupils_458 (by decide) ?_
          refine pg_icmp_ne (pc := 460) hC 487 dL_arePupils_460 (by decide)  (fun c44 => False.elim (c44 d3f)) (fun c44 => ?_)
          exact j39 () trivial
  · skip
    have hp10 : p < 10 := by omega
    obtain ⟨⟨a1, a2, a3, a4, a5⟩, a6, a7, a8, a9, a10⟩ := ap_p h hK hp10
    refine pg_iload (pc := 31) hC dL_arePupils_31 8 rfl ?_
    refine pg_if_eq (pc := 33) hC 321 dL_arePupils_33 (by decide)  (fun c45 => False.elim (absurd c45 (by decide))) (fun c45 => ?_)
    refine pg_aload_n (pc := 36) hC dL_arePupils_36 0 rfl rfl ?_
    refine pg_iload (pc := 37) hC dL_arePupils_37 9 rfl ?_
    refine pg_iconst (pc := 39) (v := 4) hC dL_arePupils_39 (by decide) ?_
    refine pg_callVYi (pc := 40) (As := [.int (nI p), .int 4]) (rest := []) (v2 := Z 0 11 p) hC dL_arePupils_40 (cX4_pupil_c l hok (nI p) 4) (tP4 (by omega)) (cwV 2 hC.2.2.2.2.1 gL_arePupils_X4_pupil rfl rfl rfl (by decide +kernel) ⟨Nat.le_of_ble_eq_true rfl, Nat.le_of_ble_eq_true rfl⟩) (ok_mem hok (by decide)) (ok_Xo hok) rfl rfl rfl rfl (Nat.le_of_ble_eq_true rfl) (Nat.zero_le _) (Nat.zero_le _) ?_
    refine pg_istore (pc := 43) (vs' := [(10, .int (Z 0 11 p)), (0, .ref (x 12 2)), (1, .int (bx_sum (Z 0 7) p)), (2, .int (bx_sum (Z 0 8) p)), (3, .int (bx_sum (Z 0 6) p)), (4, .int (bx_sum (fun j => if j % 2 = 0 then Z 0 12 (j / 2) else 0) p)), (5, .int (bx_sum (Z 0 9) p)), (6, .int (bx_sum (Z 0 10) p)), (7, .int (bx_sum (fun j => sUP (Z 0) j) p)), (8, .int 1), (9, .int (nI p))]) hC dL_arePupils_43 (by decide) rfl ?_
    refine pg_iload_n (pc := 45) hC dL_arePupils_45 2 rfl rfl ?_
    refine pg_aload_n (pc := 46) hC dL_arePupils_46 1 rfl rfl ?_
    refine pg_iload (pc := 47) hC dL_arePupils_47 10 rfl ?_
    refine pg_iconst (pc := 49) (v := 1) hC dL_arePupils_49 (by decide) ?_
    refine pg_callVYi (pc := 50) (As := [.int (nI p), .int 1]) (rest := [.int (bx_sum (Z 0 7) p)]) (v2 := Z 0 7 p) hC dL_arePupils_50 (cX4_pupil_c l hok (nI p) 1) (tP1 (by omega)) (cwV 2 hC.2.2.2.2.1 gL_arePupils_X4_pupil rfl rfl rfl (by decide +kernel) ⟨Nat.le_of_ble_eq_true rfl, Nat.le_of_ble_eq_true rfl⟩) (ok_mem hok (by decide)) (ok_Xo hok) rfl rfl rfl rfl (Nat.le_of_ble_eq_true rfl) (Nat.zero_le _) (Nat.zero_le _) ?_
    refine pg_iadd (pc := 53) (v := (bx_sum (Z 0 7) p) + (Z 0 7 p)) hC dL_arePupils_53 rfl ?_
    refine pg_istore_n (pc := 54) (vs' := [(1, .int ((bx_sum (Z 0 7) p) + (Z 0 7 p))), (10, .int (Z 0 11 p)), (0, .ref (x 12 2)), (2, .int (bx_sum (Z 0 8) p)), (3, .int (bx_sum (Z 0 6) p)), (4, .int (bx_sum (fun j => if j % 2 = 0 then Z 0 12 (j / 2) else 0) p)), (5, .int (bx_sum (Z 0 9) p)), (6, .int (bx_sum (Z 0 10) p)), (7, .int (bx_sum (fun j => sUP (Z 0) j) p)), (8, .int 1), (9, .int (nI p))]) hC dL_arePupils_54 rfl (by decide) rfl ?_
    refine pg_iload_n (pc := 55) hC dL_arePupils_55 3 rfl rfl ?_
    refine pg_aload_n (pc := 56) hC dL_arePupils_56 2 rfl rfl ?_
    refine pg_iload (pc := 57) hC dL_arePupils_57 10 rfl ?_
    refine pg_bipush (pc := 59) (v := 7) hC dL_arePupils_59 (by decide) ?_
    refine pg_callVYi (pc := 61) (As := [.int (nI p), .int 7]) (rest := [.int (bx_sum (Z 0 8) p)]) (v2 := Z 0 8 p) hC dL_arePupils_61 (cX4_pupil_c l hok (nI p) 7) (tP7 (by omega)) (cwV 2 hC.2.2.2.2.1 gL_arePupils_X4_pupil rfl rfl rfl (by decide +kernel) ⟨Nat.le_of_ble_eq_true rfl, Nat.le_of_ble_eq_true rfl⟩) (ok_mem hok (by decide)) (ok_Xo hok) rfl rfl rfl rfl (Nat.le_of_ble_eq_true rfl) (Nat.zero_le _) (Nat.zero_le _) ?_
    refine pg_iadd (pc := 64) (v := (bx_sum (Z 0 8) p) + (Z 0 8 p)) hC dL_arePupils_64 rfl ?_
    refine pg_istore_n (pc := 65) (vs' := [(2, .int ((bx_sum (Z 0 8) p) + (Z 0 8 p))), (1, .int ((bx_sum (Z 0 7) p) + (Z 0 7 p))), (10, .int (Z 0 11 p)), (0, .ref (x 12 2)), (3, .int (bx_sum (Z 0 6) p)), (4, .int (bx_sum (fun j => if j % 2 = 0 then Z 0 12 (j / 2) else 0) p)), (5, .int (bx_sum (Z 0 9) p)), (6, .int (bx_sum (Z 0 10) p)), (7, .int (bx_sum (fun j => sUP (Z 0) j) p)), (8, .int 1), (9, .int (nI p))]) hC dL_arePupils_65 rfl (by decide) rfl ?_
    refine pg_iload_n (pc := 66) hC dL_arePupils_66 4 rfl rfl ?_
    refine pg_aload_n (pc := 67) hC dL_arePupils_67 3 rfl rfl ?_
    refine pg_iload (pc := 68) hC dL_arePupils_68 10 rfl ?_
    refine pg_iconst (pc := 70) (v := 0) hC dL_arePupils_70 (by decide) ?_
    refine pg_callVYi (pc := 71) (As := [.int (nI p), .int 0]) (rest := [.int (bx_sum (Z 0 6) p)]) (v2 := Z 0 6 p) hC dL_arePupils_71 (cX4_pupil_c l hok (nI p) 0) (tP0 (by omega)) (cwV 2 hC.2.2.2.2.1 gL_arePupils_X4_pupil rfl rfl rfl (by decide +kernel) ⟨Nat.le_of_ble_eq_true rfl, Nat.le_of_ble_eq_true rfl⟩) (ok_mem hok (by decide)) (ok_Xo hok) rfl rfl rfl rfl (Nat.le_of_ble_eq_true rfl) (Nat.zero_le _) (Nat.zero_le _) ?_
    refine pg_iadd (pc := 74) (v := (bx_sum (Z 0 6) p) + (Z 0 6 p)) hC dL_arePupils_74 rfl ?_
    refine pg_istore_n (pc := 75) (vs' := [(3, .int ((bx_sum (Z 0 6) p) + (Z 0 6 p))), (2, .int ((bx_sum (Z 0 8) p) + (Z 0 8 p))), (1, .int ((bx_sum (Z 0 7) p) + (Z 0 7 p))), (10, .int (Z 0 11 p)), (0, .ref (x 12 2)), (4, .int (bx_sum (fun j => if j % 2 = 0 then Z 0 12 (j / 2) else 0) p)), (5, .int (bx_sum (Z 0 9) p)), (6, .int (bx_sum (Z 0 10) p)), (7, .int (bx_sum (fun j => sUP (Z 0) j) p)), (8, .int 1), (9, .int (nI p))]) hC dL_arePupils_75 rfl (by decide) rfl ?_
    refine pg_iload (pc := 76) hC dL_arePupils_76 5 rfl ?_
    refine pg_iload (pc := 78) hC dL_arePupils_78 10 rfl ?_
    refine pg_iconst (pc := 80) (v := 2) hC dL_arePupils_80 (by decide) ?_
    refine pg_irem (pc := 81) (v := nI (p % 2)) hC dL_arePupils_81 (by decide) (pk_rem (a := p) (d := 2) (by omega) (by omega) (by omega)) ?_
    refine pg_join (pc := 82) (σ := Unit) (fun _ => True) 97 (fun _ => [(3, .int ((bx_sum (Z 0 6) p) + (Z 0 6 p))), (2, .int ((bx_sum (Z 0 8) p) + (Z 0 8 p))), (1, .int ((bx_sum (Z 0 7) p) + (Z 0 7 p))), (10, .int (Z 0 11 p)), (0, .ref (x 12 2)), (4, .int (bx_sum (fun j => if j % 2 = 0 then Z 0 12 (j / 2) else 0) p)), (5, .int (bx_sum (Z 0 9) p)), (6, .int (bx_sum (Z 0 10) p)), (7, .int (bx_sum (fun j => sUP (Z 0) j) p)), (8, .int 1), (9, .int (nI p))]) (fun _ => [.int (if p % 2 = 0 then Z 0 12 (p / 2) else 0), .int (bx_sum (fun j => if j % 2 = 0 then Z 0 12 (j / 2) else 0) p)]) (fun _ => f) ?_ (fun j46 => ?_)
    · skip
      intro _ _
      try dsimp only
      refine pg_iadd (pc := 97) (v := (bx_sum (fun j => if j % 2 = 0 then Z 0 12 (j / 2) else 0) p) + (if p % 2 = 0 then Z 0 12 (p / 2) else 0)) hC dL_arePupils_97 rfl ?_
      refine pg_istore (pc := 98) (vs' := [(4, .int ((bx_sum (fun j => if j % 2 = 0 then Z 0 12 (j / 2) else 0) p) + (if p % 2 = 0 then Z 0 12 (p / 2) else 0))), (3, .int ((bx_sum (Z 0 6) p) + (Z 0 6 p))), (2, .int ((bx_sum (Z 0 8) p) + (Z 0 8 p))), (1, .int ((bx_sum (Z 0 7) p) + (Z 0 7 p))), (10, .int (Z 0 11 p)), (0, .ref (x 12 2)), (5, .int (bx_sum (Z 0 9) p)), (6, .int (bx_sum (Z 0 10) p)), (7, .int (bx_sum (fun j => sUP (Z 0) j) p)), (8, .int 1), (9, .int (nI p))]) hC dL_arePupils_98 (by decide) rfl ?_
      refine pg_iload (pc := 100) hC dL_arePupils_100 6 rfl ?_
      refine pg_aload_n (pc := 102) hC dL_arePupils_102 5 rfl rfl ?_
      refine pg_iload (pc := 103) hC dL_arePupils_103 10 rfl ?_
      refine pg_iconst (pc := 105) (v := 2) hC dL_arePupils_105 (by decide) ?_
      refine pg_callVYi (pc := 106) (As := [.int (nI p), .int 2]) (rest := [.int (bx_sum (Z 0 9) p)]) (v2 := Z 0 9 p) hC dL_arePupils_106 (cX4_pupil_c l hok (nI p) 2) (tP2 (by omega)) (cwV 2 hC.2.2.2.2.1 gL_arePupils_X4_pupil rfl rfl rfl (by decide +kernel) ⟨Nat.le_of_ble_eq_true rfl, Nat.le_of_ble_eq_true rfl⟩) (ok_mem hok (by decide)) (ok_Xo hok) rfl rfl rfl rfl (Nat.le_of_ble_eq_true rfl) (Nat.zero_le _) (Nat.zero_le _) ?_
      refine pg_iadd (pc := 109) (v := (bx_sum (Z 0 9) p) + (Z 0 9 p)) hC dL_arePupils_109 rfl ?_
      refine pg_istore (pc := 110) (vs' := [(5, .int ((bx_sum (Z 0 9) p) + (Z 0 9 p))), (4, .int ((bx_sum (fun j => if j % 2 = 0 then Z 0 12 (j / 2) else 0) p) + (if p % 2 = 0 then Z 0 12 (p / 2) else 0))), (3, .int ((bx_sum (Z 0 6) p) + (Z 0 6 p))), (2, .int ((bx_sum (Z 0 8) p) + (Z 0 8 p))), (1, .int ((bx_sum (Z 0 7) p) + (Z 0 7 p))), (10, .int (Z 0 11 p)), (0, .ref (x 12 2)), (6, .int (bx_sum (Z 0 10) p)), (7, .int (bx_sum (fun j => sUP (Z 0) j) p)), (8, .int 1), (9, .int (nI p))]) hC dL_arePupils_110 (by decide) rfl ?_
      refine pg_iload (pc := 112) hC dL_arePupils_112 7 rfl ?_
      refine pg_aload_n (pc := 114) hC dL_arePupils_114 6 rfl rfl ?_
      refine pg_iload (pc := 115) hC dL_arePupils_115 10 rfl ?_
      refine pg_iconst (pc := 117) (v := 3) hC dL_arePupils_117 (by decide) ?_
      refine pg_callVYi (pc := 118) (As := [.int (nI p), .int 3]) (rest := [.int (bx_sum (Z 0 10) p)]) (v2 := Z 0 10 p) hC dL_arePupils_118 (cX4_pupil_c l hok (nI p) 3) (tP3 (by omega)) (cwV 2 hC.2.2.2.2.1 gL_arePupils_X4_pupil rfl rfl rfl (by decide +kernel) ⟨Nat.le_of_ble_eq_true rfl, Nat.le_of_ble_eq_true rfl⟩) (ok_mem hok (by decide)) (ok_Xo hok) rfl rfl rfl rfl (Nat.le_of_ble_eq_true rfl) (Nat.zero_le _) (Nat.zero_le _) ?_
      refine pg_iadd (pc := 121) (v := (bx_sum (Z 0 10) p) + (Z 0 10 p)) hC dL_arePupils_121 rfl ?_
      refine pg_istore (pc := 122) (vs' := [(6, .int ((bx_sum (Z 0 10) p) + (Z 0 10 p))), (5, .int ((bx_sum (Z 0 9) p) + (Z 0 9 p))), (4, .int ((bx_sum (fun j => if j % 2 = 0 then Z 0 12 (j / 2) else 0) p) + (if p % 2 = 0 then Z 0 12 (p / 2) else 0))), (3, .int ((bx_sum (Z 0 6) p) + (Z 0 6 p))), (2, .int ((bx_sum (Z 0 8) p) + (Z 0 8 p))), (1, .int ((bx_sum (Z 0 7) p) + (Z 0 7 p))), (10, .int (Z 0 11 p)), (0, .ref (x 12 2)), (7, .int (bx_sum (fun j => sUP (Z 0) j) p)), (8, .int 1), (9, .int (nI p))]) hC dL_arePupils_122 (by decide) rfl ?_
      refine pg_iload (pc := 124) hC dL_arePupils_124 8 rfl ?_
      refine pg_aload_n (pc := 126) hC dL_arePupils_126 7 rfl rfl ?_
      refine pg_iload (pc := 127) hC dL_arePupils_127 10 rfl ?_
      refine pg_iconst (pc := 129) (v := 5) hC dL_arePupils_129 (by decide) ?_
      refine pg_callVYi (pc := 130) (As := [.int (nI p), .int 5]) (rest := [.int (bx_sum (fun j => sUP (Z 0) j) p)]) (v2 := sUP (Z 0) p) hC dL_arePupils_130 (cX4_pupil_c l hok (nI p) 5) (tP5 (by omega)) (cwV 2 hC.2.2.2.2.1 gL_arePupils_X4_pupil rfl rfl rfl (by decide +kernel) ⟨Nat.le_of_ble_eq_true rfl, Nat.le_of_ble_eq_true rfl⟩) (ok_mem hok (by decide)) (ok_Xo hok) rfl rfl rfl rfl (Nat.le_of_ble_eq_true rfl) (Nat.zero_le _) (Nat.zero_le _) ?_
      refine pg_iadd (pc := 133) (v := (bx_sum (fun j => sUP (Z 0) j) p) + (sUP (Z 0) p)) hC dL_arePupils_133 rfl ?_
      refine pg_istore (pc := 134) (vs' := [(7, .int ((bx_sum (fun j => sUP (Z 0) j) p) + (sUP (Z 0) p))), (6, .int ((bx_sum (Z 0 10) p) + (Z 0 10 p))), (5, .int ((bx_sum (Z 0 9) p) + (Z 0 9 p))), (4, .int ((bx_sum (fun j => if j % 2 = 0 then Z 0 12 (j / 2) else 0) p) + (if p % 2 = 0 then Z 0 12 (p / 2) else 0))), (3, .int ((bx_sum (Z 0 6) p) + (Z 0 6 p))), (2, .int ((bx_sum (Z 0 8) p) + (Z 0 8 p))), (1, .int ((bx_sum (Z 0 7) p) + (Z 0 7 p))), (10, .int (Z 0 11 p)), (0, .ref (x 12 2)), (8, .int 1), (9, .int (nI p))]) hC dL_arePupils_134 (by decide) rfl ?_
      refine pg_aload_n (pc := 136) hC dL_arePupils_136 8 rfl rfl ?_
      refine pg_iload (pc := 137) hC dL_arePupils_137 10 rfl ?_
      refine pg_iconst (pc := 139) (v := 0) hC dL_arePupils_139 (by decide) ?_
      refine pg_callVYi (pc := 140) (As := [.int (nI p), .int 0]) (rest := []) (v2 := Z 0 6 p) hC dL_arePupils_140 (cX4_pupil_c l hok (nI p) 0) (tP0 (by omega)) (cwV 2 hC.2.2.2.2.1 gL_arePupils_X4_pupil rfl rfl rfl (by decide +kernel) ⟨Nat.le_of_ble_eq_true rfl, Nat.le_of_ble_eq_true rfl⟩) (ok_mem hok (by decide)) (ok_Xo hok) rfl rfl rfl rfl (Nat.le_of_ble_eq_true rfl) (Nat.zero_le _) (Nat.zero_le _) ?_
      refine pg_if_lt (pc := 143) hC 312 dL_arePupils_143 (by decide)  (fun c47 => False.elim (a1 c47)) (fun c47 => ?_)
      refine pg_aload_n (pc := 146) hC dL_arePupils_146 8 rfl rfl ?_
      refine pg_iload (pc := 147) hC dL_arePupils_147 10 rfl ?_
      refine pg_iconst (pc := 149) (v := 0) hC dL_arePupils_149 (by decide) ?_
      refine pg_callVYi (pc := 150) (As := [.int (nI p), .int 0]) (rest := []) (v2 := Z 0 6 p) hC dL_arePupils_150 (cX4_pupil_c l hok (nI p) 0) (tP0 (by omega)) (cwV 2 hC.2.2.2.2.1 gL_arePupils_X4_pupil rfl rfl rfl (by decide +kernel) ⟨Nat.le_of_ble_eq_true rfl, Nat.le_of_ble_eq_true rfl⟩) (ok_mem hok (by decide)) (ok_Xo hok) rfl rfl rfl rfl (Nat.le_of_ble_eq_true rfl) (Nat.zero_le _) (Nat.zero_le _) ?_
      refine pg_bipush (pc := 153) (v := 10) hC dL_arePupils_153 (by decide) ?_
      refine pg_icmp_ge (pc := 155) hC 312 dL_arePupils_155 (by decide)  (fun c48 => False.elim (a2 c48)) (fun c48 => ?_)
      refine pg_aload_n (pc := 158) hC dL_arePupils_158 8 rfl rfl ?_
      refine pg_iload (pc := 159) hC dL_arePupils_159 10 rfl ?_
      refine pg_iconst (pc := 161) (v := 1) hC dL_arePupils_161 (by decide) ?_
      refine pg_callVYi (pc := 162) (As := [.int (nI p), .int 1]) (rest := []) (v2 := Z 0 7 p) hC dL_arePupils_162 (cX4_pupil_c l hok (nI p) 1) (tP1 (by omega)) (cwV 2 hC.2.2.2.2.1 gL_arePupils_X4_pupil rfl rfl rfl (by decide +kernel) ⟨Nat.le_of_ble_eq_true rfl, Nat.le_of_ble_eq_true rfl⟩) (ok_mem hok (by decide)) (ok_Xo hok) rfl rfl rfl rfl (Nat.le_of_ble_eq_true rfl) (Nat.zero_le _) (Nat.zero_le _) ?_
      refine pg_if_lt (pc := 165) hC 312 dL_arePupils_165 (by decide)  (fun c49 => False.elim (a3 c49)) (fun c49 => ?_)
      refine pg_aload_n (pc := 168) hC dL_arePupils_168 8 rfl rfl ?_
      refine pg_iload (pc := 169) hC dL_arePupils_169 10 rfl ?_
      refine pg_bipush (pc := 171) (v := 6) hC dL_arePupils_171 (by decide) ?_
      refine pg_callVYi (pc := 173) (As := [.int (nI p), .int 6]) (rest := []) (v2 := Z 0 12 (p / 2)) hC dL_arePupils_173 (cX4_pupil_c l hok (nI p) 6) (tP6 (by omega) (by omega)) (cwV 2 hC.2.2.2.2.1 gL_arePupils_X4_pupil rfl rfl rfl (by decide +kernel) ⟨Nat.le_of_ble_eq_true rfl, Nat.le_of_ble_eq_true rfl⟩) (ok_mem hok (by decide)) (ok_Xo hok) rfl rfl rfl rfl (Nat.le_of_ble_eq_true rfl) (Nat.zero_le _) (Nat.zero_le _) ?_
      refine pg_if_lt (pc := 176) hC 312 dL_arePupils_176 (by decide)  (fun c50 => False.elim (a4 c50)) (fun c50 => ?_)
      refine pg_aload_n (pc := 179) hC dL_arePupils_179 8 rfl rfl ?_
      refine pg_iload (pc := 180) hC dL_arePupils_180 10 rfl ?_
      refine pg_bipush (pc := 182) (v := 6) hC dL_arePupils_182 (by decide) ?_
      refine pg_callVYi (pc := 184) (As := [.int (nI p), .int 6]) (rest := []) (v2 := Z 0 12 (p / 2)) hC dL_arePupils_184 (cX4_pupil_c l hok (nI p) 6) (tP6 (by omega) (by omega)) (cwV 2 hC.2.2.2.2.1 gL_arePupils_X4_pupil rfl rfl rfl (by decide +kernel) ⟨Nat.le_of_ble_eq_true rfl, Nat.le_of_ble_eq_true rfl⟩) (ok_mem hok (by decide)) (ok_Xo hok) rfl rfl rfl rfl (Nat.le_of_ble_eq_true rfl) (Nat.zero_le _) (Nat.zero_le _) ?_
      refine pg_bipush (pc := 187) (v := 10) hC dL_arePupils_187 (by decide) ?_
      refine pg_icmp_ge (pc := 189) hC 312 dL_arePupils_189 (by decide)  (fun c51 => False.elim (a5 c51)) (fun c51 => ?_)
      refine pg_aload_n (pc := 192) hC dL_arePupils_192 8 rfl rfl ?_
      refine pg_iload (pc := 193) hC dL_arePupils_193 10 rfl ?_
      refine pg_bipush (pc := 195) (v := 6) hC dL_arePupils_195 (by decide) ?_
      refine pg_callVYi (pc := 197) (As := [.int (nI p), .int 6]) (rest := []) (v2 := Z 0 12 (p / 2)) hC dL_arePupils_197 (cX4_pupil_c l hok (nI p) 6) (tP6 (by omega) (by omega)) (cwV 2 hC.2.2.2.2.1 gL_arePupils_X4_pupil rfl rfl rfl (by decide +kernel) ⟨Nat.le_of_ble_eq_true rfl, Nat.le_of_ble_eq_true rfl⟩) (ok_mem hok (by decide)) (ok_Xo hok) rfl rfl rfl rfl (Nat.le_of_ble_eq_true rfl) (Nat.zero_le _) (Nat.zero_le _) ?_
      refine pg_aload_n (pc := 200) hC dL_arePupils_200 8 rfl rfl ?_
      refine pg_iload (pc := 201) hC dL_arePupils_201 10 rfl ?_
      refine pg_iload (pc := 203) hC dL_arePupils_203 10 rfl ?_
      refine pg_iconst (pc := 205) (v := 2) hC dL_arePupils_205 (by decide) ?_
      refine pg_irem (pc := 206) (v := nI (p % 2)) hC dL_arePupils_206 (by decide) (pk_rem (a := p) (d := 2) (by omega) (by omega) (by omega)) ?_
      refine pg_isub (pc := 207) (v := nI (p - (p % 2))) hC dL_arePupils_207 (pk_sub (a := p) (b := p % 2) (by omega)) ?_
      refine pg_bipush (pc := 208) (v := 6) hC dL_arePupils_208 (by decide) ?_
      refine pg_callVYi (pc := 210) (As := [.int (nI (p - (p % 2))), .int 6]) (rest := [.int (Z 0 12 (p / 2))]) (v2 := Z 0 12 (p / 2)) hC dL_arePupils_210 (cX4_pupil_c l hok (nI (p - (p % 2))) 6) (tP6 (by omega) (by omega)) (cwV 2 hC.2.2.2.2.1 gL_arePupils_X4_pupil rfl rfl rfl (by decide +kernel) ⟨Nat.le_of_ble_eq_true rfl, Nat.le_of_ble_eq_true rfl⟩) (ok_mem hok (by decide)) (ok_Xo hok) rfl rfl rfl rfl (Nat.le_of_ble_eq_true rfl) (Nat.zero_le _) (Nat.zero_le _) ?_
      refine pg_icmp_ne (pc := 213) hC 312 dL_arePupils_213 (by decide)  (fun c52 => False.elim (c52 rfl)) (fun c52 => ?_)
      refine pg_iload (pc := 216) hC dL_arePupils_216 7 rfl ?_
      refine pg_bipush (pc := 218) (v := (-6)) hC dL_arePupils_218 (by decide) ?_
      refine pg_join (pc := 220) (σ := Unit) (fun _ => True) 234 (fun _ => [(7, .int ((bx_sum (fun j => sUP (Z 0) j) p) + (sUP (Z 0) p))), (6, .int ((bx_sum (Z 0 10) p) + (Z 0 10 p))), (5, .int ((bx_sum (Z 0 9) p) + (Z 0 9 p))), (4, .int ((bx_sum (fun j => if j % 2 = 0 then Z 0 12 (j / 2) else 0) p) + (if p % 2 = 0 then Z 0 12 (p / 2) else 0))), (3, .int ((bx_sum (Z 0 6) p) + (Z 0 6 p))), (2, .int ((bx_sum (Z 0 8) p) + (Z 0 8 p))), (1, .int ((bx_sum (Z 0 7) p) + (Z 0 7 p))), (10, .int (Z 0 11 p)), (0, .ref (x 12 2)), (8, .int 1), (9, .int (nI p))]) (fun _ => []) (fun _ => f) ?_ (fun j53 => ?_)
      · skip
        intro _ _
        try dsimp only
        refine pg_aload_n (pc := 234) hC dL_arePupils_234 8 rfl rfl ?_
        refine pg_iload (pc := 235) hC dL_arePupils_235 10 rfl ?_
        refine pg_iconst (pc := 237) (v := 5) hC dL_arePupils_237 (by decide) ?_
        refine pg_callVYi (pc := 238) (As := [.int (nI p), .int 5]) (rest := []) (v2 := sUP (Z 0) p) hC dL_arePupils_238 (cX4_pupil_c l hok (nI p) 5) (tP5 (by omega)) (cwV 2 hC.2.2.2.2.1 gL_arePupils_X4_pupil rfl rfl rfl (by decide +kernel) ⟨Nat.le_of_ble_eq_true rfl, Nat.le_of_ble_eq_true rfl⟩) (ok_mem hok (by decide)) (ok_Xo hok) rfl rfl rfl rfl (Nat.le_of_ble_eq_true rfl) (Nat.zero_le _) (Nat.zero_le _) ?_
        refine pg_aload_n (pc := 241) hC dL_arePupils_241 8 rfl rfl ?_
        refine pg_iload (pc := 242) hC dL_arePupils_242 10 rfl ?_
        refine pg_iconst (pc := 244) (v := 2) hC dL_arePupils_244 (by decide) ?_
        refine pg_callVYi (pc := 245) (As := [.int (nI p), .int 2]) (rest := [.int (sUP (Z 0) p)]) (v2 := Z 0 9 p) hC dL_arePupils_245 (cX4_pupil_c l hok (nI p) 2) (tP2 (by omega)) (cwV 2 hC.2.2.2.2.1 gL_arePupils_X4_pupil rfl rfl rfl (by decide +kernel) ⟨Nat.le_of_ble_eq_true rfl, Nat.le_of_ble_eq_true rfl⟩) (ok_mem hok (by decide)) (ok_Xo hok) rfl rfl rfl rfl (Nat.le_of_ble_eq_true rfl) (Nat.zero_le _) (Nat.zero_le _) ?_
        refine pg_icmp_gt (pc := 248) hC 312 dL_arePupils_248 (by decide)  (fun c54 => False.elim (a7 c54)) (fun c54 => ?_)
        refine pg_iload (pc := 251) hC dL_arePupils_251 7 rfl ?_
        refine pg_bipush (pc := 253) (v := (-6)) hC dL_arePupils_253 (by decide) ?_
        refine pg_join (pc := 255) (σ := Unit) (fun _ => True) 268 (fun _ => [(7, .int ((bx_sum (fun j => sUP (Z 0) j) p) + (sUP (Z 0) p))), (6, .int ((bx_sum (Z 0 10) p) + (Z 0 10 p))), (5, .int ((bx_sum (Z 0 9) p) + (Z 0 9 p))), (4, .int ((bx_sum (fun j => if j % 2 = 0 then Z 0 12 (j / 2) else 0) p) + (if p % 2 = 0 then Z 0 12 (p / 2) else 0))), (3, .int ((bx_sum (Z 0 6) p) + (Z 0 6 p))), (2, .int ((bx_sum (Z 0 8) p) + (Z 0 8 p))), (1, .int ((bx_sum (Z 0 7) p) + (Z 0 7 p))), (10, .int (Z 0 11 p)), (0, .ref (x 12 2)), (8, .int 1), (9, .int (nI p))]) (fun _ => []) (fun _ => f) ?_ (fun j55 => ?_)
        · skip
          intro _ _
          try dsimp only
          refine pg_aload_n (pc := 268) hC dL_arePupils_268 8 rfl rfl ?_
          refine pg_iload (pc := 269) hC dL_arePupils_269 10 rfl ?_
          refine pg_bipush (pc := 271) (v := 7) hC dL_arePupils_271 (by decide) ?_
          refine pg_callVYi (pc := 273) (As := [.int (nI p), .int 7]) (rest := []) (v2 := Z 0 8 p) hC dL_arePupils_273 (cX4_pupil_c l hok (nI p) 7) (tP7 (by omega)) (cwV 2 hC.2.2.2.2.1 gL_arePupils_X4_pupil rfl rfl rfl (by decide +kernel) ⟨Nat.le_of_ble_eq_true rfl, Nat.le_of_ble_eq_true rfl⟩) (ok_mem hok (by decide)) (ok_Xo hok) rfl rfl rfl rfl (Nat.le_of_ble_eq_true rfl) (Nat.zero_le _) (Nat.zero_le _) ?_
          refine pg_if_lt (pc := 276) hC 312 dL_arePupils_276 (by decide)  (fun c56 => False.elim (a9 c56)) (fun c56 => ?_)
          refine pg_aload_n (pc := 279) hC dL_arePupils_279 8 rfl rfl ?_
          refine pg_iload (pc := 280) hC dL_arePupils_280 10 rfl ?_
          refine pg_iconst (pc := 282) (v := 3) hC dL_arePupils_282 (by decide) ?_
          refine pg_callVYi (pc := 283) (As := [.int (nI p), .int 3]) (rest := []) (v2 := Z 0 10 p) hC dL_arePupils_283 (cX4_pupil_c l hok (nI p) 3) (tP3 (by omega)) (cwV 2 hC.2.2.2.2.1 gL_arePupils_X4_pupil rfl rfl rfl (by decide +kernel) ⟨Nat.le_of_ble_eq_true rfl, Nat.le_of_ble_eq_true rfl⟩) (ok_mem hok (by decide)) (ok_Xo hok) rfl rfl rfl rfl (Nat.le_of_ble_eq_true rfl) (Nat.zero_le _) (Nat.zero_le _) ?_
          refine pg_join (pc := 286) (σ := Unit) (fun _ => True) 308 (fun _ => [(7, .int ((bx_sum (fun j => sUP (Z 0) j) p) + (sUP (Z 0) p))), (6, .int ((bx_sum (Z 0 10) p) + (Z 0 10 p))), (5, .int ((bx_sum (Z 0 9) p) + (Z 0 9 p))), (4, .int ((bx_sum (fun j => if j % 2 = 0 then Z 0 12 (j / 2) else 0) p) + (if p % 2 = 0 then Z 0 12 (p / 2) else 0))), (3, .int ((bx_sum (Z 0 6) p) + (Z 0 6 p))), (2, .int ((bx_sum (Z 0 8) p) + (Z 0 8 p))), (1, .int ((bx_sum (Z 0 7) p) + (Z 0 7 p))), (10, .int (Z 0 11 p)), (0, .ref (x 12 2)), (8, .int 1), (9, .int (nI p))]) (fun _ => []) (fun _ => f) ?_ (fun j57 => ?_)
          · skip
            intro _ _
            try dsimp only
            refine pg_iconst (pc := 308) (v := 1) hC dL_arePupils_308 (by decide) ?_
            refine pg_goto (pc := 309) hC 313 dL_arePupils_309 (by decide) ?_
            refine pg_istore (pc := 313) (vs' := [(8, .int 1), (7, .int ((bx_sum (fun j => sUP (Z 0) j) p) + (sUP (Z 0) p))), (6, .int ((bx_sum (Z 0 10) p) + (Z 0 10 p))), (5, .int ((bx_sum (Z 0 9) p) + (Z 0 9 p))), (4, .int ((bx_sum (fun j => if j % 2 = 0 then Z 0 12 (j / 2) else 0) p) + (if p % 2 = 0 then Z 0 12 (p / 2) else 0))), (3, .int ((bx_sum (Z 0 6) p) + (Z 0 6 p))), (2, .int ((bx_sum (Z 0 8) p) + (Z 0 8 p))), (1, .int ((bx_sum (Z 0 7) p) + (Z 0 7 p))), (10, .int (Z 0 11 p)), (0, .ref (x 12 2)), (9, .int (nI p))]) hC dL_arePupils_313 (by decide) rfl ?_
            refine pg_iinc (pc := 315) (v := nI (p + 1)) (vs' := [(9, .int (nI (p + 1))), (8, .int 1), (7, .int ((bx_sum (fun j => sUP (Z 0) j) p) + (sUP (Z 0) p))), (6, .int ((bx_sum (Z 0 10) p) + (Z 0 10 p))), (5, .int ((bx_sum (Z 0 9) p) + (Z 0 9 p))), (4, .int ((bx_sum (fun j => if j % 2 = 0 then Z 0 12 (j / 2) else 0) p) + (if p % 2 = 0 then Z 0 12 (p / 2) else 0))), (3, .int ((bx_sum (Z 0 6) p) + (Z 0 6 p))), (2, .int ((bx_sum (Z 0 8) p) + (Z 0 8 p))), (1, .int ((bx_sum (Z 0 7) p) + (Z 0 7 p))), (10, .int (Z 0 11 p)), (0, .ref (x 12 2))]) hC dL_arePupils_315 10 rfl (nI_add (p) 1) (by decide) rfl ?_
            refine pg_goto (pc := 318) hC 24 dL_arePupils_318 (by decide) ?_
            refine pg_sub (vs' := [(0, .ref (x 12 2)), (1, .int ((bx_sum (Z 0 7) p) + (Z 0 7 p))), (2, .int ((bx_sum (Z 0 8) p) + (Z 0 8 p))), (3, .int ((bx_sum (Z 0 6) p) + (Z 0 6 p))), (4, .int ((bx_sum (fun j => if j % 2 = 0 then Z 0 12 (j / 2) else 0) p) + (if p % 2 = 0 then Z 0 12 (p / 2) else 0))), (5, .int ((bx_sum (Z 0 9) p) + (Z 0 9 p))), (6, .int ((bx_sum (Z 0 10) p) + (Z 0 10 p))), (7, .int ((bx_sum (fun j => sUP (Z 0) j) p) + (sUP (Z 0) p))), (8, .int 1), (9, .int (nI (p + 1)))]) [10, 8, 7, 6, 5, 4, 3, 2, 1, 0] rfl ?_
            refine pg_vs (vs' := [(0, .ref (x 12 2)), (1, .int (bx_sum (Z 0 7) (p + 1))), (2, .int (bx_sum (Z 0 8) (p + 1))), (3, .int (bx_sum (Z 0 6) (p + 1))), (4, .int (bx_sum (fun j => if j % 2 = 0 then Z 0 12 (j / 2) else 0) (p + 1))), (5, .int (bx_sum (Z 0 9) (p + 1))), (6, .int (bx_sum (Z 0 10) (p + 1))), (7, .int (bx_sum (fun j => sUP (Z 0) j) (p + 1))), (8, .int 1), (9, .int (nI (p + 1)))]) (by rfl) ?_
            exact ih1 (p + 1) (by omega) (by omega)
          refine pg_if_gt (pc := 286) hC 308 dL_arePupils_286 (by decide)  (fun c58 => ?_) (fun c58 => ?_)
          · skip
            exact j57 () trivial
          · skip
            have a10f := a10 c58
            refine pg_aload_n (pc := 289) hC dL_arePupils_289 8 rfl rfl ?_
            refine pg_iload (pc := 290) hC dL_arePupils_290 10 rfl ?_
            refine pg_iconst (pc := 292) (v := 1) hC dL_arePupils_292 (by decide) ?_
            refine pg_callVYi (pc := 293) (As := [.int (nI p), .int 1]) (rest := []) (v2 := Z 0 7 p) hC dL_arePupils_293 (cX4_pupil_c l hok (nI p) 1) (tP1 (by omega)) (cwV 2 hC.2.2.2.2.1 gL_arePupils_X4_pupil rfl rfl rfl (by decide +kernel) ⟨Nat.le_of_ble_eq_true rfl, Nat.le_of_ble_eq_true rfl⟩) (ok_mem hok (by decide)) (ok_Xo hok) rfl rfl rfl rfl (Nat.le_of_ble_eq_true rfl) (Nat.zero_le _) (Nat.zero_le _) ?_
            refine pg_aload_n (pc := 296) hC dL_arePupils_296 8 rfl rfl ?_
            refine pg_iload (pc := 297) hC dL_arePupils_297 10 rfl ?_
            refine pg_bipush (pc := 299) (v := 7) hC dL_arePupils_299 (by decide) ?_
            refine pg_callVYi (pc := 301) (As := [.int (nI p), .int 7]) (rest := [.int (Z 0 7 p)]) (v2 := Z 0 8 p) hC dL_arePupils_301 (cX4_pupil_c l hok (nI p) 7) (tP7 (by omega)) (cwV 2 hC.2.2.2.2.1 gL_arePupils_X4_pupil rfl rfl rfl (by decide +kernel) ⟨Nat.le_of_ble_eq_true rfl, Nat.le_of_ble_eq_true rfl⟩) (ok_mem hok (by decide)) (ok_Xo hok) rfl rfl rfl rfl (Nat.le_of_ble_eq_true rfl) (Nat.zero_le _) (Nat.zero_le _) ?_
            refine pg_iadd (pc := 304) (v := (Z 0 7 p) + (Z 0 8 p)) hC dL_arePupils_304 rfl ?_
            refine pg_if_ne (pc := 305) hC 312 dL_arePupils_305 (by decide)  (fun c59 => False.elim (c59 a10f)) (fun c59 => ?_)
            exact j57 () trivial
        refine pg_icmp_ne (pc := 255) hC 268 dL_arePupils_255 (by decide)  (fun c60 => ?_) (fun c60 => ?_)
        · skip
          exact j55 () trivial
        · skip
          have a8f := a8 c60
          refine pg_aload_n (pc := 258) hC dL_arePupils_258 8 rfl rfl ?_
          refine pg_iload (pc := 259) hC dL_arePupils_259 10 rfl ?_
          refine pg_iconst (pc := 261) (v := 5) hC dL_arePupils_261 (by decide) ?_
          refine pg_callVYi (pc := 262) (As := [.int (nI p), .int 5]) (rest := []) (v2 := sUP (Z 0) p) hC dL_arePupils_262 (cX4_pupil_c l hok (nI p) 5) (tP5 (by omega)) (cwV 2 hC.2.2.2.2.1 gL_arePupils_X4_pupil rfl rfl rfl (by decide +kernel) ⟨Nat.le_of_ble_eq_true rfl, Nat.le_of_ble_eq_true rfl⟩) (ok_mem hok (by decide)) (ok_Xo hok) rfl rfl rfl rfl (Nat.le_of_ble_eq_true rfl) (Nat.zero_le _) (Nat.zero_le _) ?_
          refine pg_if_ne (pc := 265) hC 312 dL_arePupils_265 (by decide)  (fun c61 => False.elim (c61 a8f)) (fun c61 => ?_)
          exact j55 () trivial
      refine pg_icmp_eq (pc := 220) hC 234 dL_arePupils_220 (by decide)  (fun c62 => ?_) (fun c62 => ?_)
      · skip
        exact j53 () trivial
      · skip
        have a6f := a6.resolve_left c62
        refine pg_iload (pc := 223) hC dL_arePupils_223 7 rfl ?_
        refine pg_if_lt (pc := 225) hC 312 dL_arePupils_225 (by decide)  (fun c63 => False.elim (a6f.1 c63)) (fun c63 => ?_)
        refine pg_iload (pc := 228) hC dL_arePupils_228 7 rfl ?_
        refine pg_iconst (pc := 230) (v := 5) hC dL_arePupils_230 (by decide) ?_
        refine pg_icmp_ge (pc := 231) hC 312 dL_arePupils_231 (by decide)  (fun c64 => False.elim (a6f.2 c64)) (fun c64 => ?_)
        exact j53 () trivial
    refine pg_if_ne (pc := 82) hC 96 dL_arePupils_82 (by decide)  (fun c65 => ?_) (fun c65 => ?_)
    · skip
      refine pg_iconst (pc := 96) (v := 0) hC dL_arePupils_96 (by decide) ?_
      refine pg_top (pc := 97) (x' := if p % 2 = 0 then Z 0 12 (p / 2) else 0) (if_neg (fun q => c65 ((nI_z (by omega)).mpr q))).symm ?_
      exact j46 () trivial
    · skip
      refine pg_aload_n (pc := 85) hC dL_arePupils_85 4 rfl rfl ?_
      refine pg_iload (pc := 86) hC dL_arePupils_86 10 rfl ?_
      refine pg_bipush (pc := 88) (v := 6) hC dL_arePupils_88 (by decide) ?_
      refine pg_callVYi (pc := 90) (As := [.int (nI p), .int 6]) (rest := [.int (bx_sum (fun j => if j % 2 = 0 then Z 0 12 (j / 2) else 0) p)]) (v2 := Z 0 12 (p / 2)) hC dL_arePupils_90 (cX4_pupil_c l hok (nI p) 6) (tP6 (by omega) (by omega)) (cwV 2 hC.2.2.2.2.1 gL_arePupils_X4_pupil rfl rfl rfl (by decide +kernel) ⟨Nat.le_of_ble_eq_true rfl, Nat.le_of_ble_eq_true rfl⟩) (ok_mem hok (by decide)) (ok_Xo hok) rfl rfl rfl rfl (Nat.le_of_ble_eq_true rfl) (Nat.zero_le _) (Nat.zero_le _) ?_
      refine pg_goto (pc := 93) hC 97 dL_arePupils_93 (by decide) ?_
      refine pg_top (pc := 97) (x' := if p % 2 = 0 then Z 0 12 (p / 2) else 0) (if_pos ((nI_z (by omega)).mp c65)).symm ?_
      exact j46 () trivial
