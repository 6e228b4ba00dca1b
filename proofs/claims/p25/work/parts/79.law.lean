theorem mw_0 : Cond.classLink RL 15 RX4 ∈ wsL_law := List.mem_of_getElem? (i := 0) rfl
theorem mw_1 : Cond.instantiable RX4 6 ∈ wsL_law := List.mem_of_getElem? (i := 1) rfl
theorem mw_2 : Cond.initialized RX4 ∈ wsL_law := List.mem_of_getElem? (i := 2) rfl
theorem mw_3 : Cond.methodLink RL 94 yX4_init ∈ wsL_law := List.mem_of_getElem? (i := 3) rfl
theorem mw_4 : Cond.instanceMethod yX4_init ∈ wsL_law := List.mem_of_getElem? (i := 4) rfl
set_option maxHeartbeats 32000000 in
set_option maxRecDepth 20000 in
theorem law_G {κ : pv_Kt} {p : Program} {l : Launch} {e : Env} {s : State} {m : MethodId} {below : List Frame} {meth : Method} {c : Code} {Q : State → Prop} {rt : Option FieldType} {b N : Nat} {xs : Nat → Int32} (hN : N ≤ 260) (hXs : pv_X b N xs (fun q => s.heap.size ≤ q) s) (hC : pv_C κ p room_1 s m #[Value.ref b] meth c ⟨RL, meth.name, ""⟩ cL_law 13 wsL_law rt (fun q => s.heap.size ≤ q)) (hend : ∀ (cells slots : Nat) (L : List Nat) (f : Nat → va_E) (vs : List (Nat × Value)), cells ≤ 600000 → slots ≤ 7302250 → pv_G κ p l e room_1 s m #[Value.ref b] below meth c Q (fun q => s.heap.size ≤ q) 13 cells slots L f 404 vs [.int 1]) : pv_G κ p l e room_1 s m #[Value.ref b] below meth c Q (fun q => s.heap.size ≤ q) 13 0 0 [] (fun _ => .inr (0, [])) 0 [(0, .ref b)] [] := by
  refine pg_new (pc := 0) (ci := 4) (fs := [.null, .null, .null, .null, .null, .null]) hC dL_law_0 inlX4 tyX4 tyX4_ok rfl (show Cond.classLink RL 15 RX4 ∈ wsL_law from mw_0) mw_1 mw_2 (by intro j hj; rcases (show j = 0 ∨ j = 1 ∨ j = 2 ∨ j = 3 ∨ j = 4 ∨ j = 5 by omega) with rfl | rfl | rfl | rfl | rfl | rfl <;> rfl) ⟨Nat.le_of_ble_eq_true rfl, Nat.le_of_ble_eq_true rfl⟩ (fun q1 hq1 => ?_)
  refine pg_dup (pc := 3) hC dL_law_3 rfl ?_
  refine pg_callIv (pc := 4) (As := []) (rest := [.ref q1]) hC dL_law_4 (cX4_init_c l (L := [q1]) List.mem_cons_self va_up_e) (cwI 0 hC.2.2.2.2.1 gL_law_X4_init rfl rfl rfl (hC.2.2.2.2.1 _ mw_2) (hC.2.2.2.2.1 _ mw_3) (hC.2.2.2.2.1 _ mw_4) rfl (by decide +kernel) ⟨Nat.le_of_ble_eq_true rfl, Nat.le_of_ble_eq_true rfl⟩) rfl rfl (Nat.le_of_ble_eq_true rfl) ⟨Nat.le_of_ble_eq_true rfl, Nat.le_of_ble_eq_true rfl⟩ (fun u hu => ?_)
  obtain ⟨L2, g2⟩ := u
  obtain ⟨X0, h1⟩ := hu
  refine pg_astore_n (pc := 7) (vs' := [(1, .ref q1), (0, .ref b)]) hC dL_law_7 rfl (by decide) rfl ?_
  obtain ⟨n193, n195, nne, hok00⟩ := pv_start h1
  refine pg_norm n193 (r2 := fun j => some (xSt X0 (1 + j) 1)) (fun j hj => by unfold rowH xSt; rw [if_pos hj]) ?_
  refine pg_norm ((va_up_ne _ _ (Ne.symm nne)).trans n195) (r2 := fun j => some (xSt X0 (7 + j) 1)) (fun j hj => by unfold rowX xSt; rw [if_pos hj]) ?_
  have e1 : q1 = xSt X0 12 2 := (h1.2.2.2.2.2.1).symm
  refine pg_vs (vs' := [(1, .ref (xSt X0 12 2)), (0, .ref b)]) (by rw [← e1]) ?_
  obtain ⟨x, hx⟩ : ∃ z, z = xSt X0 := ⟨_, rfl⟩
  rw [← hx] at hok00 ⊢
  obtain ⟨f00, hf00⟩ : ∃ v_, v_ = (va_up (va_up g2 (X0 193) (.inl (κ.2.1 3, 6, .inr (.inr (.inr (.inr (fun j => some (x (1 + j) 1)))))))) (X0 195) (.inl (κ.2.1 3, 2, .inr (.inr (.inr (.inr (fun j => some (x (7 + j) 1)))))))) := ⟨_, rfl⟩
  rw [← hf00] at hok00 ⊢
  clear n193 n195 nne
  have hI0 : IV (Z00 0) 0 0 := by rw [Z00_S (by decide)]; exact IV_00
  have hn0 := hI0.nn
  have hl0 := hI0.n12
  have hxc0 : Z00 12 1 0 = nI 0 := by rw [Z00_0 (Or.inr rfl)]; rfl
  have hxd0 : Z00 12 2 0 = nI 0 := by rw [Z00_0 (Or.inr rfl)]; rfl
  have hpl0 : Z00 9 1 0 = 0 := by rw [Z00_0 (Or.inl rfl)]
  have hs00 : Z00 12 4 0 = 0 := by rw [Z00_0 (Or.inr rfl)]
  have hs01 : Z00 12 4 1 = 0 := by rw [Z00_0 (Or.inr rfl)]
  refine pg_aload_n (pc := 8) hC dL_law_8 0 rfl rfl ?_
  refine pg_callVXi (pc := 9) (As := []) (rest := []) (v2 := (-5)) (Z3 := Z00) hC dL_law_9 (cX4_undo_c l hok00 0 0 hxc0 (by decide) hxd0 (by decide)) tUnd0 (cwV 0 hC.2.2.2.2.1 gL_law_X4_undo rfl rfl rfl (by decide +kernel) ⟨Nat.le_of_ble_eq_true rfl, Nat.le_of_ble_eq_true rfl⟩) (ok_mem hok00 (by decide)) (ok_Xo hok00) rfl rfl rfl rfl (Nat.le_of_ble_eq_true rfl) (Nat.le_of_ble_eq_true rfl) (Nat.le_of_ble_eq_true rfl) (fun f1 hokw1 => ?_)
  refine pg_bipush (pc := 12) (v := (-5)) hC dL_law_12 (by decide) ?_
  refine pg_icmp_ne (pc := 14) hC 123 dL_law_14 (by decide)  (fun c1 => False.elim (c1 rfl)) (fun c1 => ?_)
  refine pg_aload_n (pc := 17) hC dL_law_17 0 rfl rfl ?_
  refine pg_iconst (pc := 18) (v := 0) hC dL_law_18 (by decide) ?_
  refine pg_callVXi (pc := 19) (As := [.int 0]) (rest := []) (v2 := (-5)) (Z3 := Z00) hC dL_law_19 (cX4_restore_c l hokw1 0 0 hxc0 (by decide) hxd0 (by decide) 0) (tRest5 (j := 0) (by decide) rfl hs00) (cwV 1 hC.2.2.2.2.1 gL_law_X4_restore rfl rfl rfl (by decide +kernel) ⟨Nat.le_of_ble_eq_true rfl, Nat.le_of_ble_eq_true rfl⟩) (ok_mem hokw1 (by decide)) (ok_Xo hokw1) rfl rfl rfl rfl (Nat.le_of_ble_eq_true rfl) (Nat.le_of_ble_eq_true rfl) (Nat.le_of_ble_eq_true rfl) (fun f2 hokw2 => ?_)
  refine pg_bipush (pc := 22) (v := (-5)) hC dL_law_22 (by decide) ?_
  refine pg_icmp_ne (pc := 24) hC 123 dL_law_24 (by decide)  (fun c2 => False.elim (c2 rfl)) (fun c2 => ?_)
  refine pg_aload_n (pc := 27) hC dL_law_27 0 rfl rfl ?_
  refine pg_iconst (pc := 28) (v := 1) hC dL_law_28 (by decide) ?_
  refine pg_callVXi (pc := 29) (As := [.int 1]) (rest := []) (v2 := (-5)) (Z3 := Z00) hC dL_law_29 (cX4_restore_c l hokw2 0 0 hxc0 (by decide) hxd0 (by decide) 1) (tRest5 (j := 1) (by decide) rfl hs01) (cwV 1 hC.2.2.2.2.1 gL_law_X4_restore rfl rfl rfl (by decide +kernel) ⟨Nat.le_of_ble_eq_true rfl, Nat.le_of_ble_eq_true rfl⟩) (ok_mem hokw2 (by decide)) (ok_Xo hokw2) rfl rfl rfl rfl (Nat.le_of_ble_eq_true rfl) (Nat.le_of_ble_eq_true rfl) (Nat.le_of_ble_eq_true rfl) (fun f3 hokw3 => ?_)
  refine pg_bipush (pc := 32) (v := (-5)) hC dL_law_32 (by decide) ?_
  refine pg_icmp_ne (pc := 34) hC 123 dL_law_34 (by decide)  (fun c3 => False.elim (c3 rfl)) (fun c3 => ?_)
  refine pg_aload_n (pc := 37) hC dL_law_37 0 rfl rfl ?_
  refine pg_iconst (pc := 38) (v := 0) hC dL_law_38 (by decide) ?_
  refine pg_callVYi (pc := 39) (As := [.int 0]) (rest := []) (v2 := 40) hC dL_law_39 (cX4_count_c l hokw3 0 hn0 hl0 0 _ rfl) ((tC _ _).1.trans Z00_c.1) (cwV 1 hC.2.2.2.2.1 gL_law_X4_count rfl rfl rfl (by decide +kernel) ⟨Nat.le_of_ble_eq_true rfl, Nat.le_of_ble_eq_true rfl⟩) (ok_mem hokw3 (by decide)) (ok_Xo hokw3) rfl rfl rfl rfl (Nat.le_of_ble_eq_true rfl) (Nat.le_of_ble_eq_true rfl) (Nat.le_of_ble_eq_true rfl) ?_
  refine pg_bipush (pc := 42) (v := 40) hC dL_law_42 (by decide) ?_
  refine pg_icmp_neN (pc := 44) hC 123 dL_law_44 (by decide) (40) (40) rfl rfl (by omega) (by omega) (fun c4 => False.elim (c4 rfl)) (fun c4 => ?_)
  refine pg_aload_n (pc := 47) hC dL_law_47 0 rfl rfl ?_
  refine pg_iconst (pc := 48) (v := 1) hC dL_law_48 (by decide) ?_
  refine pg_callVYi (pc := 49) (As := [.int 1]) (rest := []) (v2 := 25) hC dL_law_49 (cX4_count_c l hokw3 0 hn0 hl0 1 _ rfl) ((tC _ _).2.1.trans Z00_c.2.1) (cwV 1 hC.2.2.2.2.1 gL_law_X4_count rfl rfl rfl (by decide +kernel) ⟨Nat.le_of_ble_eq_true rfl, Nat.le_of_ble_eq_true rfl⟩) (ok_mem hokw3 (by decide)) (ok_Xo hokw3) rfl rfl rfl rfl (Nat.le_of_ble_eq_true rfl) (Nat.le_of_ble_eq_true rfl) (Nat.le_of_ble_eq_true rfl) ?_
  refine pg_bipush (pc := 52) (v := 25) hC dL_law_52 (by decide) ?_
  refine pg_icmp_neN (pc := 54) hC 123 dL_law_54 (by decide) (25) (25) rfl rfl (by omega) (by omega) (fun c5 => False.elim (c5 rfl)) (fun c5 => ?_)
  refine pg_aload_n (pc := 57) hC dL_law_57 0 rfl rfl ?_
  refine pg_iconst (pc := 58) (v := 2) hC dL_law_58 (by decide) ?_
  refine pg_callVYi (pc := 59) (As := [.int 2]) (rest := []) (v2 := 3) hC dL_law_59 (cX4_count_c l hokw3 0 hn0 hl0 2 _ rfl) ((tC _ _).2.2.1.trans Z00_c.2.2.1) (cwV 1 hC.2.2.2.2.1 gL_law_X4_count rfl rfl rfl (by decide +kernel) ⟨Nat.le_of_ble_eq_true rfl, Nat.le_of_ble_eq_true rfl⟩) (ok_mem hokw3 (by decide)) (ok_Xo hokw3) rfl rfl rfl rfl (Nat.le_of_ble_eq_true rfl) (Nat.le_of_ble_eq_true rfl) (Nat.le_of_ble_eq_true rfl) ?_
  refine pg_iconst (pc := 62) (v := 3) hC dL_law_62 (by decide) ?_
  refine pg_icmp_neN (pc := 63) hC 123 dL_law_63 (by decide) (3) (3) rfl rfl (by omega) (by omega) (fun c6 => False.elim (c6 rfl)) (fun c6 => ?_)
  refine pg_aload_n (pc := 66) hC dL_law_66 0 rfl rfl ?_
  refine pg_iconst (pc := 67) (v := 3) hC dL_law_67 (by decide) ?_
  refine pg_callVYi (pc := 68) (As := [.int 3]) (rest := []) (v2 := 5) hC dL_law_68 (cX4_count_c l hokw3 0 hn0 hl0 3 _ rfl) ((tC _ _).2.2.2.1.trans Z00_c.2.2.2.1) (cwV 1 hC.2.2.2.2.1 gL_law_X4_count rfl rfl rfl (by decide +kernel) ⟨Nat.le_of_ble_eq_true rfl, Nat.le_of_ble_eq_true rfl⟩) (ok_mem hokw3 (by decide)) (ok_Xo hokw3) rfl rfl rfl rfl (Nat.le_of_ble_eq_true rfl) (Nat.le_of_ble_eq_true rfl) (Nat.le_of_ble_eq_true rfl) ?_
  refine pg_iconst (pc := 71) (v := 5) hC dL_law_71 (by decide) ?_
  refine pg_icmp_neN (pc := 72) hC 123 dL_law_72 (by decide) (5) (5) rfl rfl (by omega) (by omega) (fun c7 => False.elim (c7 rfl)) (fun c7 => ?_)
  refine pg_aload_n (pc := 75) hC dL_law_75 0 rfl rfl ?_
  refine pg_iconst (pc := 76) (v := 4) hC dL_law_76 (by decide) ?_
  refine pg_callVYi (pc := 77) (As := [.int 4]) (rest := []) (v2 := 4) hC dL_law_77 (cX4_count_c l hokw3 0 hn0 hl0 4 _ rfl) ((tC _ _).2.2.2.2.1.trans Z00_c.2.2.2.2.1) (cwV 1 hC.2.2.2.2.1 gL_law_X4_count rfl rfl rfl (by decide +kernel) ⟨Nat.le_of_ble_eq_true rfl, Nat.le_of_ble_eq_true rfl⟩) (ok_mem hokw3 (by decide)) (ok_Xo hokw3) rfl rfl rfl rfl (Nat.le_of_ble_eq_true rfl) (Nat.le_of_ble_eq_true rfl) (Nat.le_of_ble_eq_true rfl) ?_
  refine pg_iconst (pc := 80) (v := 4) hC dL_law_80 (by decide) ?_
  refine pg_icmp_neN (pc := 81) hC 123 dL_law_81 (by decide) (4) (4) rfl rfl (by omega) (by omega) (fun c8 => False.elim (c8 rfl)) (fun c8 => ?_)
  refine pg_aload_n (pc := 84) hC dL_law_84 0 rfl rfl ?_
  refine pg_bipush (pc := 85) (v := 15) hC dL_law_85 (by decide) ?_
  refine pg_callVYi (pc := 87) (As := [.int 15]) (rest := []) (v2 := 50) hC dL_law_87 (cX4_count_c l hokw3 0 hn0 hl0 15 _ rfl) ((tC _ _).2.2.2.2.2.2.2.2.2.2.2.2.2.2.2.1.trans Z00_c.2.2.2.2.2) (cwV 1 hC.2.2.2.2.1 gL_law_X4_count rfl rfl rfl (by decide +kernel) ⟨Nat.le_of_ble_eq_true rfl, Nat.le_of_ble_eq_true rfl⟩) (ok_mem hokw3 (by decide)) (ok_Xo hokw3) rfl rfl rfl rfl (Nat.le_of_ble_eq_true rfl) (Nat.le_of_ble_eq_true rfl) (Nat.le_of_ble_eq_true rfl) ?_
  refine pg_bipush (pc := 90) (v := 50) hC dL_law_90 (by decide) ?_
  refine pg_icmp_neN (pc := 92) hC 123 dL_law_92 (by decide) (50) (50) rfl rfl (by omega) (by omega) (fun c9 => False.elim (c9 rfl)) (fun c9 => ?_)
  refine pg_aload_n (pc := 95) hC dL_law_95 0 rfl rfl ?_
  refine pg_iconst (pc := 96) (v := 0) hC dL_law_96 (by decide) ?_
  refine pg_callSEi (pc := 97) (As := [.ref (x 12 2), .int (nI (0))]) (rest := []) hC dL_law_97 (cL_refuses_c l hokw3 0 0 hI0 (by decide) 0 0 hxc0 (by decide) hxd0 (by decide) hpl0 (0) (by omega)) (va_cwS 2 hC.2.2.2.2.1 gL_law_L_refuses rfl rfl rfl (by decide +kernel) ⟨Nat.le_of_ble_eq_true rfl, Nat.le_of_ble_eq_true rfl⟩) rfl rfl (Nat.le_of_ble_eq_true rfl) (Nat.le_of_ble_eq_true rfl) (Nat.le_of_ble_eq_true rfl) (fun r1 fr1 Zr1 hokr1 hphr1 => ?_)
  obtain ⟨rfl, hRS1⟩ := hphr1
  have e01 : Zr1 0 = Z00 0 := hRS1.1 0 (by decide) (by decide)
  have e121 : Zr1 12 = Z00 12 := hRS1.1 12 (by decide) (by decide)
  have hI1 : IV (Zr1 0) 0 0 := by rw [e01]; exact hI0
  have hnr1 := hI1.nn
  have hlr1 := hI1.n12
  have hxcr1 : Zr1 12 1 0 = nI 0 := by rw [e121]; exact hxc0
  have hxdr1 : Zr1 12 2 0 = nI 0 := by rw [e121]; exact hxd0
  refine pg_if_eq (pc := 100) hC 123 dL_law_100 (by decide)  (fun c10 => False.elim (absurd c10 (by decide))) (fun c10 => ?_)
  refine pg_aload_n (pc := 103) hC dL_law_103 0 rfl rfl ?_
  refine pg_iconst (pc := 104) (v := 1) hC dL_law_104 (by decide) ?_
  refine pg_callSEi (pc := 105) (As := [.ref (x 12 2), .int (nI (1))]) (rest := []) hC dL_law_105 (cL_refuses_c l hokr1 0 0 hI1 (by decide) 0 0 hxcr1 (by decide) hxdr1 (by decide) hRS1.2 (1) (by omega)) (va_cwS 2 hC.2.2.2.2.1 gL_law_L_refuses rfl rfl rfl (by decide +kernel) ⟨Nat.le_of_ble_eq_true rfl, Nat.le_of_ble_eq_true rfl⟩) rfl rfl (Nat.le_of_ble_eq_true rfl) (Nat.le_of_ble_eq_true rfl) (Nat.le_of_ble_eq_true rfl) (fun r2 fr2 Zr2 hokr2 hphr2 => ?_)
  obtain ⟨rfl, hRS2⟩ := hphr2
  have e02 : Zr2 0 = Zr1 0 := hRS2.1 0 (by decide) (by decide)
  have e122 : Zr2 12 = Zr1 12 := hRS2.1 12 (by decide) (by decide)
  have hI2 : IV (Zr2 0) 0 0 := by rw [e02]; exact hI1
  have hnr2 := hI2.nn
  have hlr2 := hI2.n12
  have hxcr2 : Zr2 12 1 0 = nI 0 := by rw [e122]; exact hxcr1
  have hxdr2 : Zr2 12 2 0 = nI 0 := by rw [e122]; exact hxdr1
  have hJ0 := JV_0 (hRS1.trans hRS2)
  refine pg_if_eq (pc := 108) hC 123 dL_law_108 (by decide)  (fun c11 => False.elim (absurd c11 (by decide))) (fun c11 => ?_)
  refine pg_aload_n (pc := 111) hC dL_law_111 0 rfl rfl ?_
  refine pg_iconst (pc := 112) (v := 1) hC dL_law_112 (by decide) ?_
  refine pg_callVXi (pc := 113) (As := [.int 1]) (rest := []) (v2 := 0) (Z3 := (tSaveZ Zr2 1)) hC dL_law_113 (cX4_save_c l hokr2 1) ⟨hJ0.2, rfl⟩ (cwV 1 hC.2.2.2.2.1 gL_law_X4_save rfl rfl rfl (by decide +kernel) ⟨Nat.le_of_ble_eq_true rfl, Nat.le_of_ble_eq_true rfl⟩) (ok_mem hokr2 (by decide)) (ok_Xo hokr2) rfl rfl rfl rfl (Nat.le_of_ble_eq_true rfl) (Nat.le_of_ble_eq_true rfl) (Nat.le_of_ble_eq_true rfl) (fun f4 hokw4 => ?_)
  refine pg_if_ne (pc := 116) hC 123 dL_law_116 (by decide)  (fun c12 => False.elim (absurd c12 (by decide))) (fun c12 => ?_)
  refine pg_iconst (pc := 119) (v := 1) hC dL_law_119 (by decide) ?_
  refine pg_goto (pc := 120) hC 124 dL_law_120 (by decide) ?_
  refine pg_istore_n (pc := 124) (vs' := [(2, .int 1), (1, .ref (x 12 2)), (0, .ref (b))]) hC dL_law_124 rfl (by decide) rfl ?_
  refine pg_iconst (pc := 125) (v := 0) hC dL_law_125 (by decide) ?_
  refine pg_istore_n (pc := 126) (vs' := [(3, .int 0), (2, .int 1), (1, .ref (x 12 2)), (0, .ref (b))]) hC dL_law_126 rfl (by decide) rfl ?_
  refine pg_sub (vs' := [(0, .ref (b)), (1, .ref (x 12 2)), (2, .int 1), (3, .int 0)]) [3, 2, 1, 0] rfl ?_
  refine pg_loop (pc := 127) (σ := Nat × (Nat → va_E) × (Nat → Nat → Nat → Int32)) (I := fun q => match q with | (i, f, Z) => i ≤ 70 ∧ pv_ok κ x L2 f Z ∧ ∃ n nx kp : Nat, JV Z n nx kp i) (μ := fun q => match q with | (i, _, _) => 70 - i) (VS := fun q => match q with | (i, _, _) => [(0, .ref b), (1, .ref (x 12 2)), (2, .int 1), (3, .int (nI i))]) (FF := fun q => match q with | (_, f, _) => f) ?_ (0, _, tSaveZ Zr2 1) ⟨Nat.zero_le _, hokw4, 0, 0, 0, hJ0.1⟩
  intro q hI ih
  obtain ⟨i, f, Z⟩ := q
  dsimp only at hI ih ⊢
  obtain ⟨hi, hok, n, nx, kp, hJ⟩ := hI
  have hn0L := hJ.1.nn
  have hl0L := hJ.1.n12
  obtain ⟨hxa0L, hxb0L, hxc0L, hxd0L⟩ := hJ.2.1
  have hpl0L := hJ.2.2.2.2
  refine pg_iload_n (pc := 127) hC dL_law_127 3 rfl rfl ?_
  refine pg_bipush (pc := 128) (v := 70) hC dL_law_128 (by decide) ?_
  refine pg_icmp_geN (pc := 130) hC 365 dL_law_130 (by decide) (i) (70) rfl rfl (by omega) (by omega) (fun c13 => ?_) (fun c13 => ?_)
  · skip
    refine pg_iload_n (pc := 365) hC dL_law_365 2 rfl rfl ?_
    refine pg_if_eq (pc := 366) hC 403 dL_law_366 (by decide)  (fun c14 => False.elim (absurd c14 (by decide))) (fun c14 => ?_)
    refine pg_aload_n (pc := 369) hC dL_law_369 1 rfl rfl ?_
    refine pg_iconst (pc := 370) (v := 1) hC dL_law_370 (by decide) ?_
    have hJF := blk3 hJ
    obtain ⟨ZF, hZF⟩ : ∃ v_, v_ = va_up (sKeep Z nx kp) 0 (sBec (Z 0) (Z 8)) := ⟨_, rfl⟩
    obtain ⟨nxF, hnxF⟩ : ∃ v_, v_ = (nx + 1) % 6 := ⟨_, rfl⟩
    obtain ⟨kpF, hkpF⟩ : ∃ v_, v_ = min 6 (kp + 1) := ⟨_, rfl⟩
    rw [← hZF, ← hnxF, ← hkpF] at hJF
    have hJF2 := hJF.2
    refine pg_callVXi (pc := 371) (As := [.int 1]) (rest := []) (v2 := 0) (Z3 := ZF) hC dL_law_371 (cX4_restore_c l hok nx kp hxc0L hxa0L hxd0L hxb0L 1) hJF.1 (cwV 1 hC.2.2.2.2.1 gL_law_X4_restore rfl rfl rfl (by decide +kernel) ⟨Nat.le_of_ble_eq_true rfl, Nat.le_of_ble_eq_true rfl⟩) (ok_mem hok (by decide)) (ok_Xo hok) rfl rfl rfl rfl (Nat.le_of_ble_eq_true rfl) (Nat.le_of_ble_eq_true rfl) (Nat.le_of_ble_eq_true rfl) (fun f5 hokw5 => ?_)
    have hnF := hJF2.1.nn
    have hlF := hJF2.1.n12
    obtain ⟨hxaF, hxbF, hxcF, hxdF⟩ := hJF2.2.1
    have hplF := hJF2.2.2.2.2
    refine pg_if_ne (pc := 374) hC 403 dL_law_374 (by decide)  (fun c15 => False.elim (absurd c15 (by decide))) (fun c15 => ?_)
    refine pg_aload_n (pc := 377) hC dL_law_377 1 rfl rfl ?_
    refine pg_iconst (pc := 378) (v := 5) hC dL_law_378 (by decide) ?_
    refine pg_callVYi (pc := 379) (As := [.int 5]) (rest := []) (v2 := nI 0) hC dL_law_379 (cX4_count_c l hokw5 0 hnF hlF 5 _ rfl) ((tC _ _).2.2.2.2.2.1.trans hnF) (cwV 1 hC.2.2.2.2.1 gL_law_X4_count rfl rfl rfl (by decide +kernel) ⟨Nat.le_of_ble_eq_true rfl, Nat.le_of_ble_eq_true rfl⟩) (ok_mem hokw5 (by decide)) (ok_Xo hokw5) rfl rfl rfl rfl (Nat.le_of_ble_eq_true rfl) (Nat.le_of_ble_eq_true rfl) (Nat.le_of_ble_eq_true rfl) ?_
    refine pg_if_ne (pc := 382) hC 403 dL_law_382 (by decide)  (fun c16 => False.elim (c16 rfl)) (fun c16 => ?_)
    refine pg_aload_n (pc := 385) hC dL_law_385 1 rfl rfl ?_
    refine pg_callVXi (pc := 386) (As := []) (rest := []) (v2 := nI (kpF - 1)) (Z3 := (sBack ZF nxF kpF)) hC dL_law_386 (cX4_undo_c l hokw5 nxF kpF hxcF hxaF hxdF hxbF) (tUnd (by omega)) (cwV 0 hC.2.2.2.2.1 gL_law_X4_undo rfl rfl rfl (by decide +kernel) ⟨Nat.le_of_ble_eq_true rfl, Nat.le_of_ble_eq_true rfl⟩) (ok_mem hokw5 (by decide)) (ok_Xo hokw5) rfl rfl rfl rfl (Nat.le_of_ble_eq_true rfl) (Nat.le_of_ble_eq_true rfl) (Nat.le_of_ble_eq_true rfl) (fun f6 hokw6 => ?_)
    obtain ⟨mu, hmu⟩ := JV_top hJF.2 (by omega)
    refine pg_if_lt (pc := 389) hC 403 dL_law_389 (by decide)  (fun c17 => False.elim (nI_pos (by omega) c17)) (fun c17 => ?_)
    refine pg_aload_n (pc := 392) hC dL_law_392 1 rfl rfl ?_
    refine pg_callSRi (pc := 393) (As := [.ref (x 12 2)]) (rest := []) hC dL_law_393 (cL_arePupils_c l hokw6 mu i hmu (by omega)) (va_cwS 1 hC.2.2.2.2.1 gL_law_L_arePupils rfl rfl rfl (by decide +kernel) ⟨Nat.le_of_ble_eq_true rfl, Nat.le_of_ble_eq_true rfl⟩) rfl rfl (Nat.le_of_ble_eq_true rfl) (Nat.le_of_ble_eq_true rfl) (Nat.le_of_ble_eq_true rfl) ?_
    refine pg_if_eq (pc := 396) hC 403 dL_law_396 (by decide)  (fun c18 => False.elim (absurd c18 (by decide))) (fun c18 => ?_)
    refine pg_iconst (pc := 399) (v := 1) hC dL_law_399 (by decide) ?_
    refine pg_goto (pc := 400) hC 404 dL_law_400 (by decide) ?_
    exact hend _ _ _ _ _ (by decide) (by decide)
  · skip
    refine pg_iload_n (pc := 133) hC dL_law_133 2 rfl rfl ?_
    refine pg_if_eq (pc := 134) hC 365 dL_law_134 (by decide)  (fun c19 => False.elim (absurd c19 (by decide))) (fun c19 => ?_)
    refine pg_aload_n (pc := 137) hC dL_law_137 0 rfl rfl ?_
    refine pg_iload_n (pc := 138) hC dL_law_138 3 rfl rfl ?_
    refine pg_callX (pc := 139) (As := [.ref b, .int (nI i)]) (rest := []) hC dL_law_139 hXs (cL_cell_c l hN i (by omega)) (va_cwS 2 hC.2.2.2.2.1 gL_law_L_cell rfl rfl rfl (by decide +kernel) ⟨Nat.le_of_ble_eq_true rfl, Nat.le_of_ble_eq_true rfl⟩) rfl rfl (Nat.le_of_ble_eq_true rfl) (Nat.le_of_ble_eq_true rfl) (Nat.le_of_ble_eq_true rfl) (fun X hX => ?_)
    refine pg_istore (pc := 142) (vs' := [(4, .int (nI X)), (0, .ref (b)), (1, .ref (x 12 2)), (2, .int 1), (3, .int (nI i))]) hC dL_law_142 (by decide) rfl ?_
    refine pg_aload_n (pc := 144) hC dL_law_144 2 rfl rfl ?_
    refine pg_callSRl (pc := 145) (As := [.ref (x 12 2)]) (rest := []) hC dL_law_145 (cL_seen_c l hok n hn0L hl0L) (va_cwS 1 hC.2.2.2.2.1 gL_law_L_seen rfl rfl rfl (by decide +kernel) ⟨Nat.le_of_ble_eq_true rfl, Nat.le_of_ble_eq_true rfl⟩) rfl rfl (Nat.le_of_ble_eq_true rfl) (Nat.le_of_ble_eq_true rfl) (Nat.le_of_ble_eq_true rfl) ?_
    refine pg_lstore (pc := 148) (vs' := [(5, .long (sSeen (Z 0) n)), (4, .int (nI X)), (0, .ref (b)), (1, .ref (x 12 2)), (2, .int 1), (3, .int (nI i))]) hC dL_law_148 (by decide) rfl ?_
    refine pg_aload_n (pc := 150) hC dL_law_150 3 rfl rfl ?_
    refine pg_bipush (pc := 151) (v := 19) hC dL_law_151 (by decide) ?_
    refine pg_callVYi (pc := 153) (As := [.int 19]) (rest := []) (v2 := nI kp) hC dL_law_153 (cX4_count_c l hok n hn0L hl0L 19 _ rfl) ((tC _ _).2.2.2.2.2.2.2.2.2.2.2.2.2.2.2.2.2.2.2.trans hxd0L) (cwV 1 hC.2.2.2.2.1 gL_law_X4_count rfl rfl rfl (by decide +kernel) ⟨Nat.le_of_ble_eq_true rfl, Nat.le_of_ble_eq_true rfl⟩) (ok_mem hok (by decide)) (ok_Xo hok) rfl rfl rfl rfl (Nat.le_of_ble_eq_true rfl) (Nat.le_of_ble_eq_true rfl) (Nat.le_of_ble_eq_true rfl) ?_
    refine pg_istore (pc := 156) (vs' := [(7, .int (nI kp)), (5, .long (sSeen (Z 0) n)), (4, .int (nI X)), (0, .ref (b)), (1, .ref (x 12 2)), (2, .int 1), (3, .int (nI i))]) hC dL_law_156 (by decide) rfl ?_
    refine pg_aload_n (pc := 158) hC dL_law_158 4 rfl rfl ?_
    refine pg_iload (pc := 159) hC dL_law_159 2 rfl ?_
    refine pg_callSEi (pc := 161) (As := [.ref (x 12 2), .int (nI X)]) (rest := []) hC dL_law_161 (cL_act_c l hok n i hJ.1 (by omega) nx kp hxc0L hxa0L hxd0L hxb0L X hX) (va_cwS 2 hC.2.2.2.2.1 gL_law_L_act rfl rfl rfl (by decide +kernel) ⟨Nat.le_of_ble_eq_true rfl, Nat.le_of_ble_eq_true rfl⟩) rfl rfl (Nat.le_of_ble_eq_true rfl) (Nat.le_of_ble_eq_true rfl) (Nat.le_of_ble_eq_true rfl) (fun r1 f1 Z1 hok1 hph => ?_)
    rcases hph with ⟨hr, hZ1⟩ | ⟨hr, z2, n2, hZ1, hz2⟩
    · skip
      subst hr
      have hokA : pv_ok κ x L2 f1 Z := by rw [hZ1] at hok1; exact hok1
      have hJA := hJ.mono (Nat.le_succ i)
      have hnA := hJA.1.nn
      have hlA := hJA.1.n12
      obtain ⟨hxaA, hxbA, hxcA, hxdA⟩ := hJA.2.1
      have hplA := hJA.2.2.2.2
      refine pg_istore (pc := 164) (vs' := [(8, .int 0), (7, .int (nI kp)), (5, .long (sSeen (Z 0) n)), (4, .int (nI X)), (0, .ref (b)), (1, .ref (x 12 2)), (2, .int 1), (3, .int (nI i))]) hC dL_law_164 (by decide) rfl ?_
      refine pg_aload_n (pc := 166) hC dL_law_166 5 rfl rfl ?_
      refine pg_bipush (pc := 167) (v := 19) hC dL_law_167 (by decide) ?_
      refine pg_callVYi (pc := 169) (As := [.int 19]) (rest := []) (v2 := nI kp) hC dL_law_169 (cX4_count_c l hokA n hnA hlA 19 _ rfl) ((tC _ _).2.2.2.2.2.2.2.2.2.2.2.2.2.2.2.2.2.2.2.trans hxdA) (cwV 1 hC.2.2.2.2.1 gL_law_X4_count rfl rfl rfl (by decide +kernel) ⟨Nat.le_of_ble_eq_true rfl, Nat.le_of_ble_eq_true rfl⟩) (ok_mem hokA (by decide)) (ok_Xo hokA) rfl rfl rfl rfl (Nat.le_of_ble_eq_true rfl) (Nat.le_of_ble_eq_true rfl) (Nat.le_of_ble_eq_true rfl) ?_
      refine pg_istore (pc := 172) (vs' := [(9, .int (nI kp)), (8, .int 0), (7, .int (nI kp)), (5, .long (sSeen (Z 0) n)), (4, .int (nI X)), (0, .ref (b)), (1, .ref (x 12 2)), (2, .int 1), (3, .int (nI i))]) hC dL_law_172 (by decide) rfl ?_
      refine pg_iload (pc := 174) hC dL_law_174 1 rfl ?_
      refine pg_if_lt (pc := 176) hC 263 dL_law_176 (by decide)  (fun c20 => False.elim (absurd c20 (by decide))) (fun c20 => ?_)
      refine pg_iload (pc := 179) hC dL_law_179 1 rfl ?_
      refine pg_if_ne (pc := 181) hC 204 dL_law_181 (by decide)  (fun c21 => False.elim (absurd c21 (by decide))) (fun c21 => ?_)
      refine pg_iload (pc := 184) hC dL_law_184 0 rfl ?_
      refine pg_iload (pc := 186) hC dL_law_186 2 rfl ?_
      refine pg_icmp_neN (pc := 188) hC 263 dL_law_188 (by decide) (kp) (kp) rfl rfl (by omega) (by omega) (fun c22 => False.elim (c22 rfl)) (fun c22 => ?_)
      refine pg_aload_n (pc := 191) hC dL_law_191 6 rfl rfl ?_
      refine pg_callSRl (pc := 192) (As := [.ref (x 12 2)]) (rest := []) hC dL_law_192 (cL_seen_c l hokA n hnA hlA) (va_cwS 1 hC.2.2.2.2.1 gL_law_L_seen rfl rfl rfl (by decide +kernel) ⟨Nat.le_of_ble_eq_true rfl, Nat.le_of_ble_eq_true rfl⟩) rfl rfl (Nat.le_of_ble_eq_true rfl) (Nat.le_of_ble_eq_true rfl) (Nat.le_of_ble_eq_true rfl) ?_
      refine pg_lload (pc := 195) hC dL_law_195 3 rfl ?_
      refine pg_lcmp (pc := 197) hC dL_law_197 ?_
      refine pg_top (pc := 198) (x' := 0) (lg_self _) ?_
      refine pg_if_ne (pc := 198) hC 263 dL_law_198 (by decide)  (fun c23 => False.elim (absurd c23 (by decide))) (fun c23 => ?_)
      refine pg_goto (pc := 201) hC 225 dL_law_201 (by decide) ?_
      refine pg_iload_n (pc := 225) hC dL_law_225 8 rfl rfl ?_
      refine pg_iconst (pc := 226) (v := 3) hC dL_law_226 (by decide) ?_
      refine pg_irem (pc := 227) (v := nI (i % 3)) hC dL_law_227 (by decide) (pk_rem (a := i) (d := 3) (by omega) (by omega) (by omega)) ?_
      refine pg_join (pc := 228) (σ := Unit) (fun _ => True) 238 (fun _ => [(9, .int (nI kp)), (8, .int 0), (7, .int (nI kp)), (5, .long (sSeen (Z 0) n)), (4, .int (nI X)), (0, .ref (b)), (1, .ref (x 12 2)), (2, .int 1), (3, .int (nI i))]) (fun _ => []) (fun _ => f1) ?_ (fun j24 => ?_)
      · skip
        intro _ _
        try dsimp only
        refine pg_iload_n (pc := 238) hC dL_law_238 8 rfl rfl ?_
        refine pg_bipush (pc := 239) (v := 7) hC dL_law_239 (by decide) ?_
        refine pg_irem (pc := 241) (v := nI (i % 7)) hC dL_law_241 (by decide) (pk_rem (a := i) (d := 7) (by omega) (by omega) (by omega)) ?_
        refine pg_bipush (pc := 242) (v := 6) hC dL_law_242 (by decide) ?_
        refine pg_join (pc := 244) (σ := (Nat → va_E) × (Nat → Nat → Nat → Int32)) (fun q => match q with | (g_1, Y_1) => pv_ok κ x L2 g_1 Y_1 ∧ RS Z Y_1) 259 (fun q => match q with | (g_1, Y_1) => [(9, .int (nI kp)), (8, .int 0), (7, .int (nI kp)), (5, .long (sSeen (Z 0) n)), (4, .int (nI X)), (0, .ref (b)), (1, .ref (x 12 2)), (2, .int 1), (3, .int (nI i))]) (fun q => match q with | (g_1, Y_1) => []) (fun q => match q with | (g_1, Y_1) => g_1) ?_ (fun j25 => ?_)
        · skip
          intro q hI
          obtain ⟨g_1, Y_1⟩ := q
          try dsimp only
          obtain ⟨hokg, hRSg⟩ : pv_ok κ x L2 g_1 Y_1 ∧ RS Z Y_1 := hI
          have hJG := JV_RS hJA hRSg
          have hnG := hJG.1.nn
          have hlG := hJG.1.n12
          obtain ⟨hxaG, hxbG, hxcG, hxdG⟩ := hJG.2.1
          have hplG := hJG.2.2.2.2
          refine pg_iconst (pc := 259) (v := 1) hC dL_law_259 (by decide) ?_
          refine pg_goto (pc := 260) hC 264 dL_law_260 (by decide) ?_
          refine pg_istore_n (pc := 264) (vs' := [(2, .int 1), (9, .int (nI kp)), (8, .int 0), (7, .int (nI kp)), (5, .long (sSeen (Z 0) n)), (4, .int (nI X)), (0, .ref (b)), (1, .ref (x 12 2)), (3, .int (nI i))]) hC dL_law_264 rfl (by decide) rfl ?_
          refine pg_iload_n (pc := 265) hC dL_law_265 0 rfl rfl ?_
          refine pg_if_eq (pc := 266) hC 359 dL_law_266 (by decide)  (fun c26 => False.elim (absurd c26 (by decide))) (fun c26 => ?_)
          refine pg_iload (pc := 269) hC dL_law_269 2 rfl ?_
          refine pg_iconst (pc := 271) (v := 1) hC dL_law_271 (by decide) ?_
          refine pg_icmp_neN (pc := 272) hC 359 dL_law_272 (by decide) (0) (1) rfl rfl (by omega) (by omega) (fun c27 => ?_) (fun c27 => False.elim (absurd c27 (by decide)))
          refine pg_iinc (pc := 359) (v := nI (i + 1)) (vs' := [(3, .int (nI (i + 1))), (2, .int 1), (9, .int (nI kp)), (8, .int 0), (7, .int (nI kp)), (5, .long (sSeen (Z 0) n)), (4, .int (nI X)), (0, .ref (b)), (1, .ref (x 12 2))]) hC dL_law_359 8 rfl (nI_add (i) 1) (by decide) rfl ?_
          refine pg_goto (pc := 362) hC 127 dL_law_362 (by decide) ?_
          refine pg_sub (vs' := [(0, .ref (b)), (1, .ref (x 12 2)), (2, .int 1), (3, .int (nI (i + 1)))]) [7, 8, 1, 0] rfl ?_
          exact ih (i + 1, g_1, Y_1) ⟨by omega, hokg, _, _, _, hJG⟩ (show 70 - (i + 1) < 70 - i by omega)
        refine pg_icmp_neN (pc := 244) hC 259 dL_law_244 (by decide) (i % 7) (6) rfl rfl (by omega) (by omega) (fun c28 => ?_) (fun c28 => ?_)
        · skip
          exact j25 (f1, Z) ⟨hokA, RS.rf hplA⟩
        · skip
          refine pg_aload_n (pc := 247) hC dL_law_247 6 rfl rfl ?_
          refine pg_iload (pc := 248) hC dL_law_248 4 rfl ?_
          refine pg_bipush (pc := 250) (v := 7) hC dL_law_250 (by decide) ?_
          refine pg_idiv (pc := 252) (v := nI (X / 7)) hC dL_law_252 (by decide) (pk_div (a := X) (d := 7) (by omega) (by omega) (by omega)) ?_
          refine pg_callSEi (pc := 253) (As := [.ref (x 12 2), .int (nI (X / 7))]) (rest := []) hC dL_law_253 (cL_refuses_c l hokA n (i + 1) hJA.1 (by omega) nx kp hxcA hxaA hxdA hxbA hplA (X / 7) (by omega)) (va_cwS 2 hC.2.2.2.2.1 gL_law_L_refuses rfl rfl rfl (by decide +kernel) ⟨Nat.le_of_ble_eq_true rfl, Nat.le_of_ble_eq_true rfl⟩) rfl rfl (Nat.le_of_ble_eq_true rfl) (Nat.le_of_ble_eq_true rfl) (Nat.le_of_ble_eq_true rfl) (fun r3 fr3 Zr3 hokr3 hphr3 => ?_)
          obtain ⟨rfl, hRS3⟩ := hphr3
          refine pg_if_eq (pc := 256) hC 263 dL_law_256 (by decide)  (fun c29 => False.elim (absurd c29 (by decide))) (fun c29 => ?_)
          exact j25 (fr3, Zr3) ⟨hokr3, hRS3⟩
      refine pg_if_eq (pc := 228) hC 238 dL_law_228 (by decide)  (fun c30 => ?_) (fun c30 => ?_)
      · skip
        exact j24 () trivial
      · skip
        refine pg_aload_n (pc := 231) hC dL_law_231 6 rfl rfl ?_
        refine pg_callSRi (pc := 232) (As := [.ref (x 12 2)]) (rest := []) hC dL_law_232 (cL_arePupils_c l hokA n (i + 1) hJA.1 (by omega)) (va_cwS 1 hC.2.2.2.2.1 gL_law_L_arePupils rfl rfl rfl (by decide +kernel) ⟨Nat.le_of_ble_eq_true rfl, Nat.le_of_ble_eq_true rfl⟩) rfl rfl (Nat.le_of_ble_eq_true rfl) (Nat.le_of_ble_eq_true rfl) (Nat.le_of_ble_eq_true rfl) ?_
        refine pg_if_eq (pc := 235) hC 263 dL_law_235 (by decide)  (fun c31 => False.elim (absurd c31 (by decide))) (fun c31 => ?_)
        exact j24 () trivial
    · skip
      subst hr
      obtain ⟨nx1, hnx1⟩ : ∃ v_, v_ = (nx + 1) % 6 := ⟨_, rfl⟩
      obtain ⟨kp1, hkp1⟩ : ∃ v_, v_ = min 6 (kp + 1) := ⟨_, rfl⟩
      have hJA : JV Z1 n2 nx1 kp1 (i + 1) := by rw [hZ1, hnx1, hkp1]; exact JV_keep hJ hz2 (Nat.le_succ i)
      have hnA := hJA.1.nn
      have hlA := hJA.1.n12
      obtain ⟨hxaA, hxbA, hxcA, hxdA⟩ := hJA.2.1
      have hplA := hJA.2.2.2.2
      refine pg_istore (pc := 164) (vs' := [(8, .int 1), (7, .int (nI kp)), (5, .long (sSeen (Z 0) n)), (4, .int (nI X)), (0, .ref (b)), (1, .ref (x 12 2)), (2, .int 1), (3, .int (nI i))]) hC dL_law_164 (by decide) rfl ?_
      refine pg_aload_n (pc := 166) hC dL_law_166 5 rfl rfl ?_
      refine pg_bipush (pc := 167) (v := 19) hC dL_law_167 (by decide) ?_
      refine pg_callVYi (pc := 169) (As := [.int 19]) (rest := []) (v2 := nI kp1) hC dL_law_169 (cX4_count_c l hok1 n2 hnA hlA 19 _ rfl) ((tC _ _).2.2.2.2.2.2.2.2.2.2.2.2.2.2.2.2.2.2.2.trans hxdA) (cwV 1 hC.2.2.2.2.1 gL_law_X4_count rfl rfl rfl (by decide +kernel) ⟨Nat.le_of_ble_eq_true rfl, Nat.le_of_ble_eq_true rfl⟩) (ok_mem hok1 (by decide)) (ok_Xo hok1) rfl rfl rfl rfl (Nat.le_of_ble_eq_true rfl) (Nat.le_of_ble_eq_true rfl) (Nat.le_of_ble_eq_true rfl) ?_
      refine pg_istore (pc := 172) (vs' := [(9, .int (nI kp1)), (8, .int 1), (7, .int (nI kp)), (5, .long (sSeen (Z 0) n)), (4, .int (nI X)), (0, .ref (b)), (1, .ref (x 12 2)), (2, .int 1), (3, .int (nI i))]) hC dL_law_172 (by decide) rfl ?_
      refine pg_iload (pc := 174) hC dL_law_174 1 rfl ?_
      refine pg_if_lt (pc := 176) hC 263 dL_law_176 (by decide)  (fun c32 => False.elim (absurd c32 (by decide))) (fun c32 => ?_)
      refine pg_iload (pc := 179) hC dL_law_179 1 rfl ?_
      refine pg_if_ne (pc := 181) hC 204 dL_law_181 (by decide)  (fun c33 => ?_) (fun c33 => False.elim (absurd c33 (by decide)))
      refine pg_iload (pc := 204) hC dL_law_204 0 rfl ?_
      refine pg_iload (pc := 206) hC dL_law_206 2 rfl ?_
      refine pg_join (pc := 208) (σ := Unit) (fun _ => True) 225 (fun _ => [(9, .int (nI kp1)), (8, .int 1), (7, .int (nI kp)), (5, .long (sSeen (Z 0) n)), (4, .int (nI X)), (0, .ref (b)), (1, .ref (x 12 2)), (2, .int 1), (3, .int (nI i))]) (fun _ => []) (fun _ => f1) ?_ (fun j34 => ?_)
      · skip
        intro _ _
        try dsimp only
        refine pg_iload_n (pc := 225) hC dL_law_225 8 rfl rfl ?_
        refine pg_iconst (pc := 226) (v := 3) hC dL_law_226 (by decide) ?_
        refine pg_irem (pc := 227) (v := nI (i % 3)) hC dL_law_227 (by decide) (pk_rem (a := i) (d := 3) (by omega) (by omega) (by omega)) ?_
        refine pg_join (pc := 228) (σ := Unit) (fun _ => True) 238 (fun _ => [(9, .int (nI kp1)), (8, .int 1), (7, .int (nI kp)), (5, .long (sSeen (Z 0) n)), (4, .int (nI X)), (0, .ref (b)), (1, .ref (x 12 2)), (2, .int 1), (3, .int (nI i))]) (fun _ => []) (fun _ => f1) ?_ (fun j35 => ?_)
        · skip
          intro _ _
          try dsimp only
          refine pg_iload_n (pc := 238) hC dL_law_238 8 rfl rfl ?_
          refine pg_bipush (pc := 239) (v := 7) hC dL_law_239 (by decide) ?_
          refine pg_irem (pc := 241) (v := nI (i % 7)) hC dL_law_241 (by decide) (pk_rem (a := i) (d := 7) (by omega) (by omega) (by omega)) ?_
          refine pg_bipush (pc := 242) (v := 6) hC dL_law_242 (by decide) ?_
          refine pg_join (pc := 244) (σ := (Nat → va_E) × (Nat → Nat → Nat → Int32)) (fun q => match q with | (g_1, Y_1) => pv_ok κ x L2 g_1 Y_1 ∧ RS Z1 Y_1) 259 (fun q => match q with | (g_1, Y_1) => [(9, .int (nI kp1)), (8, .int 1), (7, .int (nI kp)), (5, .long (sSeen (Z 0) n)), (4, .int (nI X)), (0, .ref (b)), (1, .ref (x 12 2)), (2, .int 1), (3, .int (nI i))]) (fun q => match q with | (g_1, Y_1) => []) (fun q => match q with | (g_1, Y_1) => g_1) ?_ (fun j36 => ?_)
          · skip
            intro q hI
            obtain ⟨g_1, Y_1⟩ := q
            try dsimp only
            obtain ⟨hokg, hRSg⟩ : pv_ok κ x L2 g_1 Y_1 ∧ RS Z1 Y_1 := hI
            have hJG := JV_RS hJA hRSg
            have hnG := hJG.1.nn
            have hlG := hJG.1.n12
            obtain ⟨hxaG, hxbG, hxcG, hxdG⟩ := hJG.2.1
            have hplG := hJG.2.2.2.2
            refine pg_iconst (pc := 259) (v := 1) hC dL_law_259 (by decide) ?_
            refine pg_goto (pc := 260) hC 264 dL_law_260 (by decide) ?_
            refine pg_istore_n (pc := 264) (vs' := [(2, .int 1), (9, .int (nI kp1)), (8, .int 1), (7, .int (nI kp)), (5, .long (sSeen (Z 0) n)), (4, .int (nI X)), (0, .ref (b)), (1, .ref (x 12 2)), (3, .int (nI i))]) hC dL_law_264 rfl (by decide) rfl ?_
            refine pg_iload_n (pc := 265) hC dL_law_265 0 rfl rfl ?_
            refine pg_if_eq (pc := 266) hC 359 dL_law_266 (by decide)  (fun c37 => False.elim (absurd c37 (by decide))) (fun c37 => ?_)
            refine pg_iload (pc := 269) hC dL_law_269 2 rfl ?_
            refine pg_iconst (pc := 271) (v := 1) hC dL_law_271 (by decide) ?_
            refine pg_icmp_neN (pc := 272) hC 359 dL_law_272 (by decide) (1) (1) rfl rfl (by omega) (by omega) (fun c38 => False.elim (c38 rfl)) (fun c38 => ?_)
            refine pg_iload (pc := 275) hC dL_law_275 5 rfl ?_
            refine pg_bipush (pc := 277) (v := 17) hC dL_law_277 (by decide) ?_
            refine pg_idiv (pc := 279) (v := nI (X / 17)) hC dL_law_279 (by decide) (pk_div (a := X) (d := 17) (by omega) (by omega) (by omega)) ?_
            refine pg_iconst (pc := 280) (v := 4) hC dL_law_280 (by decide) ?_
            refine pg_irem (pc := 281) (v := nI ((X / 17) % 4)) hC dL_law_281 (by decide) (pk_rem (a := X / 17) (d := 4) (by omega) (by omega) (by omega)) ?_
            refine pg_if_ne (pc := 282) hC 359 dL_law_282 (by decide)  (fun c39 => ?_) (fun c39 => ?_)
            · skip
              refine pg_iinc (pc := 359) (v := nI (i + 1)) (vs' := [(3, .int (nI (i + 1))), (2, .int 1), (9, .int (nI kp1)), (8, .int 1), (7, .int (nI kp)), (5, .long (sSeen (Z 0) n)), (4, .int (nI X)), (0, .ref (b)), (1, .ref (x 12 2))]) hC dL_law_359 8 rfl (nI_add (i) 1) (by decide) rfl ?_
              refine pg_goto (pc := 362) hC 127 dL_law_362 (by decide) ?_
              refine pg_sub (vs' := [(0, .ref (b)), (1, .ref (x 12 2)), (2, .int 1), (3, .int (nI (i + 1)))]) [7, 8, 1, 0] rfl ?_
              exact ih (i + 1, g_1, Y_1) ⟨by omega, hokg, _, _, _, hJG⟩ (show 70 - (i + 1) < 70 - i by omega)
            · skip
              refine pg_aload_n (pc := 285) hC dL_law_285 7 rfl rfl ?_
              refine pg_callSRl (pc := 286) (As := [.ref (x 12 2)]) (rest := []) hC dL_law_286 (cL_seen_c l hokg n2 hnG hlG) (va_cwS 1 hC.2.2.2.2.1 gL_law_L_seen rfl rfl rfl (by decide +kernel) ⟨Nat.le_of_ble_eq_true rfl, Nat.le_of_ble_eq_true rfl⟩) rfl rfl (Nat.le_of_ble_eq_true rfl) (Nat.le_of_ble_eq_true rfl) (Nat.le_of_ble_eq_true rfl) ?_
              refine pg_lstore (pc := 289) (vs' := [(10, .long (sSeen (Y_1 0) n2)), (2, .int 1), (9, .int (nI kp1)), (8, .int 1), (7, .int (nI kp)), (5, .long (sSeen (Z 0) n)), (4, .int (nI X)), (0, .ref (b)), (1, .ref (x 12 2)), (3, .int (nI i))]) hC dL_law_289 (by decide) rfl ?_
              refine pg_aload_n (pc := 291) hC dL_law_291 8 rfl rfl ?_
              refine pg_iconst (pc := 292) (v := 0) hC dL_law_292 (by decide) ?_
              obtain ⟨sm5, hJ5, hs5, h75⟩ := blk1 hJ (hZ1 ▸ hRSg) hnx1 hkp1 hJG
              have hJ4 := JV_save hJG
              obtain ⟨Z5, hZ5⟩ : ∃ v_, v_ = sBack (zSv Y_1) nx1 kp1 := ⟨_, rfl⟩
              rw [← hZ5] at sm5 hJ5 hs5 h75
              obtain ⟨nx2, hnx2⟩ : ∃ v_, v_ = (nx1 + 6 - 1) % 6 := ⟨_, rfl⟩
              obtain ⟨kp2, hkp2⟩ : ∃ v_, v_ = kp1 - 1 := ⟨_, rfl⟩
              rw [← hnx2, ← hkp2] at hJ5
              obtain ⟨hr6, sm6, hJ6⟩ := blk2 hJ5 hs5 h75 hJG.1
              obtain ⟨Z6, hZ6⟩ : ∃ v_, v_ = va_up (sKeep Z5 nx2 kp2) 0 (sBec (Z5 0) (Z5 7)) := ⟨_, rfl⟩
              rw [← hZ6] at hr6 sm6 hJ6
              refine pg_callVXi (pc := 293) (As := [.int 0]) (rest := []) (v2 := Y_1 0 14 0) (Z3 := (zSv Y_1)) hC dL_law_293 (cX4_save_c l hokg 0) (zSv_t Y_1) (cwV 1 hC.2.2.2.2.1 gL_law_X4_save rfl rfl rfl (by decide +kernel) ⟨Nat.le_of_ble_eq_true rfl, Nat.le_of_ble_eq_true rfl⟩) (ok_mem hokg (by decide)) (ok_Xo hokg) rfl rfl rfl rfl (Nat.le_of_ble_eq_true rfl) (Nat.le_of_ble_eq_true rfl) (Nat.le_of_ble_eq_true rfl) (fun f7 hokw7 => ?_)
              have hnS := hJ4.1.nn
              have hlS := hJ4.1.n12
              obtain ⟨hxaS, hxbS, hxcS, hxdS⟩ := hJ4.2.1
              have hplS := hJ4.2.2.2.2
              refine pg_istore (pc := 296) (vs' := [(12, .int (Y_1 0 14 0)), (10, .long (sSeen (Y_1 0) n2)), (2, .int 1), (9, .int (nI kp1)), (8, .int 1), (7, .int (nI kp)), (5, .long (sSeen (Z 0) n)), (4, .int (nI X)), (0, .ref (b)), (1, .ref (x 12 2)), (3, .int (nI i))]) hC dL_law_296 (by decide) rfl ?_
              refine pg_iload (pc := 298) hC dL_law_298 0 rfl ?_
              refine pg_if_lt (pc := 300) hC 357 dL_law_300 (by decide)  (fun c40 => False.elim ((IV_t hJG.1 (by omega)) c40)) (fun c40 => ?_)
              refine pg_aload_n (pc := 303) hC dL_law_303 9 rfl rfl ?_
              refine pg_callVXi (pc := 304) (As := []) (rest := []) (v2 := nI (kp1 - 1)) (Z3 := Z5) hC dL_law_304 (cX4_undo_c l hokw7 nx1 kp1 hxcS hxaS hxdS hxbS) ⟨(tUnd (Z := zSv Y_1) (nx := nx1) (by omega)).1, (tUnd (by omega)).2.trans hZ5.symm⟩ (cwV 0 hC.2.2.2.2.1 gL_law_X4_undo rfl rfl rfl (by decide +kernel) ⟨Nat.le_of_ble_eq_true rfl, Nat.le_of_ble_eq_true rfl⟩) (ok_mem hokw7 (by decide)) (ok_Xo hokw7) rfl rfl rfl rfl (Nat.le_of_ble_eq_true rfl) (Nat.le_of_ble_eq_true rfl) (Nat.le_of_ble_eq_true rfl) (fun f8 hokw8 => ?_)
              have hnU := hJ5.1.nn
              have hlU := hJ5.1.n12
              obtain ⟨hxaU, hxbU, hxcU, hxdU⟩ := hJ5.2.1
              have hplU := hJ5.2.2.2.2
              refine pg_iload (pc := 307) hC dL_law_307 5 rfl ?_
              refine pg_bipush (pc := 309) (v := 6) hC dL_law_309 (by decide) ?_
              refine pg_join (pc := 311) (σ := Unit) (fun _ => True) 323 (fun _ => [(12, .int (Y_1 0 14 0)), (10, .long (sSeen (Y_1 0) n2)), (2, .int 1), (9, .int (nI kp1)), (8, .int 1), (7, .int (nI kp)), (5, .long (sSeen (Z 0) n)), (4, .int (nI X)), (0, .ref (b)), (1, .ref (x 12 2)), (3, .int (nI i))]) (fun _ => []) (fun _ => f8) ?_ (fun j41 => ?_)
              · skip
                intro _ _
                try dsimp only
                refine pg_aload_n (pc := 323) hC dL_law_323 9 rfl rfl ?_
                refine pg_callSRl (pc := 324) (As := [.ref (x 12 2)]) (rest := []) hC dL_law_324 (cL_seen_c l hokw8 n hnU hlU) (va_cwS 1 hC.2.2.2.2.1 gL_law_L_seen rfl rfl rfl (by decide +kernel) ⟨Nat.le_of_ble_eq_true rfl, Nat.le_of_ble_eq_true rfl⟩) rfl rfl (Nat.le_of_ble_eq_true rfl) (Nat.le_of_ble_eq_true rfl) (Nat.le_of_ble_eq_true rfl) ?_
                refine pg_topl (pc := 327) (x' := sSeen (Z 0) n) (sm_seen sm5 hn0L hl0L) ?_
                refine pg_lload (pc := 327) hC dL_law_327 6 rfl ?_
                refine pg_lcmp (pc := 329) hC dL_law_329 ?_
                refine pg_top (pc := 330) (x' := 0) (lg_self _) ?_
                refine pg_if_ne (pc := 330) hC 357 dL_law_330 (by decide)  (fun c42 => False.elim (absurd c42 (by decide))) (fun c42 => ?_)
                refine pg_aload_n (pc := 333) hC dL_law_333 9 rfl rfl ?_
                refine pg_iconst (pc := 334) (v := 0) hC dL_law_334 (by decide) ?_
                refine pg_callVXi (pc := 335) (As := [.int 0]) (rest := []) (v2 := Y_1 0 14 0) (Z3 := Z6) hC dL_law_335 (cX4_restore_c l hokw8 nx2 kp2 hxcU hxaU hxdU hxbU 0) hr6 (cwV 1 hC.2.2.2.2.1 gL_law_X4_restore rfl rfl rfl (by decide +kernel) ⟨Nat.le_of_ble_eq_true rfl, Nat.le_of_ble_eq_true rfl⟩) (ok_mem hokw8 (by decide)) (ok_Xo hokw8) rfl rfl rfl rfl (Nat.le_of_ble_eq_true rfl) (Nat.le_of_ble_eq_true rfl) (Nat.le_of_ble_eq_true rfl) (fun f9 hokw9 => ?_)
                have hnV := hJ6.1.nn
                have hlV := hJ6.1.n12
                obtain ⟨hxaV, hxbV, hxcV, hxdV⟩ := hJ6.2.1
                have hplV := hJ6.2.2.2.2
                refine pg_iload (pc := 338) hC dL_law_338 0 rfl ?_
                refine pg_icmp_ne (pc := 340) hC 357 dL_law_340 (by decide)  (fun c43 => False.elim (c43 rfl)) (fun c43 => ?_)
                refine pg_aload_n (pc := 343) hC dL_law_343 9 rfl rfl ?_
                refine pg_callSRl (pc := 344) (As := [.ref (x 12 2)]) (rest := []) hC dL_law_344 (cL_seen_c l hokw9 n2 hnV hlV) (va_cwS 1 hC.2.2.2.2.1 gL_law_L_seen rfl rfl rfl (by decide +kernel) ⟨Nat.le_of_ble_eq_true rfl, Nat.le_of_ble_eq_true rfl⟩) rfl rfl (Nat.le_of_ble_eq_true rfl) (Nat.le_of_ble_eq_true rfl) (Nat.le_of_ble_eq_true rfl) ?_
                refine pg_topl (pc := 347) (x' := sSeen (Y_1 0) n2) (sm_seen sm6 hnG hlG) ?_
                refine pg_lload (pc := 347) hC dL_law_347 1 rfl ?_
                refine pg_lcmp (pc := 349) hC dL_law_349 ?_
                refine pg_top (pc := 350) (x' := 0) (lg_self _) ?_
                refine pg_if_ne (pc := 350) hC 357 dL_law_350 (by decide)  (fun c44 => False.elim (absurd c44 (by decide))) (fun c44 => ?_)
                refine pg_iconst (pc := 353) (v := 1) hC dL_law_353 (by decide) ?_
                refine pg_goto (pc := 354) hC 358 dL_law_354 (by decide) ?_
                refine pg_istore_n (pc := 358) (vs' := [(2, .int 1), (12, .int (Y_1 0 14 0)), (10, .long (sSeen (Y_1 0) n2)), (9, .int (nI kp1)), (8, .int 1), (7, .int (nI kp)), (5, .long (sSeen (Z 0) n)), (4, .int (nI X)), (0, .ref (b)), (1, .ref (x 12 2)), (3, .int (nI i))]) hC dL_law_358 rfl (by decide) rfl ?_
                refine pg_iinc (pc := 359) (v := nI (i + 1)) (vs' := [(3, .int (nI (i + 1))), (2, .int 1), (12, .int (Y_1 0 14 0)), (10, .long (sSeen (Y_1 0) n2)), (9, .int (nI kp1)), (8, .int 1), (7, .int (nI kp)), (5, .long (sSeen (Z 0) n)), (4, .int (nI X)), (0, .ref (b)), (1, .ref (x 12 2))]) hC dL_law_359 10 rfl (nI_add (i) 1) (by decide) rfl ?_
                refine pg_goto (pc := 362) hC 127 dL_law_362 (by decide) ?_
                refine pg_sub (vs' := [(0, .ref (b)), (1, .ref (x 12 2)), (2, .int 1), (3, .int (nI (i + 1)))]) [9, 10, 1, 0] rfl ?_
                exact ih (i + 1, f9, Z6) ⟨by omega, hokw9, _, _, _, hJ6⟩ (show 70 - (i + 1) < 70 - i by omega)
              refine pg_icmp_geN (pc := 311) hC 319 dL_law_311 (by decide) (kp) (6) rfl rfl (by omega) (by omega) (fun c45 => ?_) (fun c45 => ?_)
              · skip
                refine pg_iconst (pc := 319) (v := 5) hC dL_law_319 (by decide) ?_
                refine pg_icmp_neN (pc := 320) hC 357 dL_law_320 (by decide) (kp1 - 1) (5) rfl rfl (by omega) (by omega) (fun c46 => False.elim (c46 (by omega))) (fun c46 => ?_)
                exact j41 () trivial
              · skip
                refine pg_iload (pc := 314) hC dL_law_314 5 rfl ?_
                refine pg_goto (pc := 316) hC 320 dL_law_316 (by decide) ?_
                refine pg_icmp_neN (pc := 320) hC 357 dL_law_320 (by decide) (kp1 - 1) (kp) rfl rfl (by omega) (by omega) (fun c47 => False.elim (c47 (by omega))) (fun c47 => ?_)
                exact j41 () trivial
          refine pg_icmp_neN (pc := 244) hC 259 dL_law_244 (by decide) (i % 7) (6) rfl rfl (by omega) (by omega) (fun c48 => ?_) (fun c48 => ?_)
          · skip
            exact j36 (f1, Z1) ⟨hok1, RS.rf hplA⟩
          · skip
            refine pg_aload_n (pc := 247) hC dL_law_247 6 rfl rfl ?_
            refine pg_iload (pc := 248) hC dL_law_248 4 rfl ?_
            refine pg_bipush (pc := 250) (v := 7) hC dL_law_250 (by decide) ?_
            refine pg_idiv (pc := 252) (v := nI (X / 7)) hC dL_law_252 (by decide) (pk_div (a := X) (d := 7) (by omega) (by omega) (by omega)) ?_
            refine pg_callSEi (pc := 253) (As := [.ref (x 12 2), .int (nI (X / 7))]) (rest := []) hC dL_law_253 (cL_refuses_c l hok1 n2 (i + 1) hJA.1 (by omega) nx1 kp1 hxcA hxaA hxdA hxbA hplA (X / 7) (by omega)) (va_cwS 2 hC.2.2.2.2.1 gL_law_L_refuses rfl rfl rfl (by decide +kernel) ⟨Nat.le_of_ble_eq_true rfl, Nat.le_of_ble_eq_true rfl⟩) rfl rfl (Nat.le_of_ble_eq_true rfl) (Nat.le_of_ble_eq_true rfl) (Nat.le_of_ble_eq_true rfl) (fun r4 fr4 Zr4 hokr4 hphr4 => ?_)
            obtain ⟨rfl, hRS4⟩ := hphr4
            refine pg_if_eq (pc := 256) hC 263 dL_law_256 (by decide)  (fun c49 => False.elim (absurd c49 (by decide))) (fun c49 => ?_)
            exact j36 (fr4, Zr4) ⟨hokr4, hRS4⟩
        refine pg_if_eq (pc := 228) hC 238 dL_law_228 (by decide)  (fun c50 => ?_) (fun c50 => ?_)
        · skip
          exact j35 () trivial
        · skip
          refine pg_aload_n (pc := 231) hC dL_law_231 6 rfl rfl ?_
          refine pg_callSRi (pc := 232) (As := [.ref (x 12 2)]) (rest := []) hC dL_law_232 (cL_arePupils_c l hok1 n2 (i + 1) hJA.1 (by omega)) (va_cwS 1 hC.2.2.2.2.1 gL_law_L_arePupils rfl rfl rfl (by decide +kernel) ⟨Nat.le_of_ble_eq_true rfl, Nat.le_of_ble_eq_true rfl⟩) rfl rfl (Nat.le_of_ble_eq_true rfl) (Nat.le_of_ble_eq_true rfl) (Nat.le_of_ble_eq_true rfl) ?_
          refine pg_if_eq (pc := 235) hC 263 dL_law_235 (by decide)  (fun c51 => False.elim (absurd c51 (by decide))) (fun c51 => ?_)
          exact j35 () trivial
      refine pg_bipush (pc := 208) (v := 6) hC dL_law_208 (by decide) ?_
      refine pg_icmp_geN (pc := 210) hC 220 dL_law_210 (by decide) (kp) (6) rfl rfl (by omega) (by omega) (fun c52 => ?_) (fun c52 => ?_)
      · skip
        refine pg_bipush (pc := 220) (v := 6) hC dL_law_220 (by decide) ?_
        refine pg_icmp_neN (pc := 222) hC 263 dL_law_222 (by decide) (kp1) (6) rfl rfl (by omega) (by omega) (fun c53 => False.elim (c53 (by omega))) (fun c53 => ?_)
        exact j34 () trivial
      · skip
        refine pg_iload (pc := 213) hC dL_law_213 2 rfl ?_
        refine pg_iconst (pc := 215) (v := 1) hC dL_law_215 (by decide) ?_
        refine pg_iadd (pc := 216) (v := nI (kp + 1)) hC dL_law_216 (nI_add (kp) (1)) ?_
        refine pg_goto (pc := 217) hC 222 dL_law_217 (by decide) ?_
        refine pg_icmp_neN (pc := 222) hC 263 dL_law_222 (by decide) (kp1) (kp + 1) rfl rfl (by omega) (by omega) (fun c54 => False.elim (c54 (by omega))) (fun c54 => ?_)
        exact j34 () trivial
