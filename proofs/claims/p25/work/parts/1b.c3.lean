abbrev rmX3_init : Room := { frames := 2, cells := 13, slots := 231, locals := 61 }
theorem miX3_init_X3 : ∀ w ∈ wsX30, w ∈ wsX3_init := fun _ h => List.mem_cons_of_mem _ (List.mem_append_right _ h)
set_option maxHeartbeats 8000000 in
set_option maxRecDepth 20000 in
theorem cX3_init_c (l : Launch) {κ : pv_Kt} {L : List Nat} {f : Nat → va_E} {a : Nat} (hL : a ∈ L) (hf : f a = .inr (3, [.null, .int 0, .null, .null, .null, .null, .null, .null, .null, .null, .null, .null, .null, .null, .int 0])) : pv_Mv l κ yX3_init wsX3_init rmX3_init L f [.ref a] 13 231 (pv_Wn 1 L f a (fun k => k < 14) (fun xs => pS_E κ xs (zS 10 10))) := by
  refine pv_startV (cc := cX3_init) (maxL := 2) (ret := none) (by decide) rfl (Nat.le_of_ble_eq_true rfl) (fun A0 P0 E0 S0 M0 a0 B0 T0 C0 hC => ?_)
  refine pg_sub (vs' := [(0, .ref a)]) [0] rfl ?_
  have h0 := p1_0 1 hL hf
  refine pg_aload_n (pc := 0) hC dX3_init_0 0 rfl rfl ?_
  refine pg_objInit (pc := 1) hC dX3_init_1 (List.mem_of_getElem? (i := 1) rfl) (List.mem_of_getElem? (i := 2) rfl) (List.mem_of_getElem? (i := 3) rfl) (Nat.le_of_ble_eq_true rfl) (Nat.le_of_ble_eq_true rfl) ?_
  refine pg_aload_n (pc := 4) hC dX3_init_4 0 rfl rfl ?_
  refine pg_getsN (pc := 5) hC dX3_init_5 hC.2.2.2.2.2.2.2.2.2.1.1.1 hC.2.2.2.2.2.2.2.2.2.1.2.1.2.2.2.2.2 ?_
  refine pg_tlen (pc := 8) (v := 5) hC dX3_init_8 hC.2.2.2.2.2.2.2.2.2.1.1.1 (by decide) ?_
  refine pg1_newa (pc := 9) (N := 5) hC h0 0 (by show ¬ (0 = 1); decide) dX3_init_9 1 rfl rfl (Or.inr (Or.inl rfl)) (List.mem_of_getElem? (i := 4) rfl) rfl (by decide) ⟨Nat.le_of_ble_eq_true rfl, Nat.le_of_ble_eq_true rfl⟩ (fun q1 L1 f1 h1 => ?_)
  refine pg1_put (pc := 11) (ty := tyX3 0) (fs := [.null, .int 0, .null, .null, .null, .null, .null, .null, .null, .null, .null, .null, .null, .null, .int 0]) hC h1 rfl dX3_init_11 0 miX3_init_X3 tyX3 tyX3_ok nmX3 (List.mem_of_getElem? (i := 5) rfl) rfl (by decide) rfl rfl rfl (tyX3_ok 0 (by decide)) rfl rfl (Nat.le_of_ble_eq_true rfl) (fun f2 h2 => ?_)
  refine pg_aload_n (pc := 14) hC dX3_init_14 0 rfl rfl ?_
  refine pg_iconst (pc := 15) (v := 0) hC dX3_init_15 (by decide) ?_
  refine pg1_put (pc := 16) (ty := tyX3 1) (fs := [.ref (q1), .int 0, .null, .null, .null, .null, .null, .null, .null, .null, .null, .null, .null, .null, .int 0]) hC h2 rfl dX3_init_16 1 miX3_init_X3 tyX3 tyX3_ok nmX3 (List.mem_of_getElem? (i := 6) rfl) rfl (by decide) rfl rfl rfl (tyX3_ok 1 (by decide)) rfl rfl (Nat.le_of_ble_eq_true rfl) (fun f3 h3 => ?_)
  refine pg_aload_n (pc := 19) hC dX3_init_19 0 rfl rfl ?_
  refine pg_bipush (pc := 20) (v := 12) hC dX3_init_20 (by decide) ?_
  refine pg1_newa (pc := 22) (N := 12) hC h3 2 (by show ¬ (2 = 0 ∨ 2 = 1); decide) dX3_init_22 1 rfl rfl (Or.inr (Or.inl rfl)) (List.mem_of_getElem? (i := 4) rfl) rfl (by decide) ⟨Nat.le_of_ble_eq_true rfl, Nat.le_of_ble_eq_true rfl⟩ (fun q4 L4 f4 h4 => ?_)
  refine pg1_put (pc := 24) (ty := tyX3 2) (fs := [.ref (q1), .int 0, .null, .null, .null, .null, .null, .null, .null, .null, .null, .null, .null, .null, .int 0]) hC h4 rfl dX3_init_24 2 miX3_init_X3 tyX3 tyX3_ok nmX3 (List.mem_of_getElem? (i := 7) rfl) rfl (by decide) rfl rfl rfl (tyX3_ok 2 (by decide)) rfl rfl (Nat.le_of_ble_eq_true rfl) (fun f5 h5 => ?_)
  refine pg_aload_n (pc := 27) hC dX3_init_27 0 rfl rfl ?_
  refine pg_bipush (pc := 28) (v := 12) hC dX3_init_28 (by decide) ?_
  refine pg1_newa (pc := 30) (N := 12) hC h5 3 (by show ¬ (3 = 2 ∨ 3 = 0 ∨ 3 = 1); decide) dX3_init_30 1 rfl rfl (Or.inr (Or.inl rfl)) (List.mem_of_getElem? (i := 4) rfl) rfl (by decide) ⟨Nat.le_of_ble_eq_true rfl, Nat.le_of_ble_eq_true rfl⟩ (fun q6 L6 f6 h6 => ?_)
  refine pg1_put (pc := 32) (ty := tyX3 3) (fs := [.ref (q1), .int 0, .ref (q4), .null, .null, .null, .null, .null, .null, .null, .null, .null, .null, .null, .int 0]) hC h6 rfl dX3_init_32 3 miX3_init_X3 tyX3 tyX3_ok nmX3 (List.mem_of_getElem? (i := 8) rfl) rfl (by decide) rfl rfl rfl (tyX3_ok 3 (by decide)) rfl rfl (Nat.le_of_ble_eq_true rfl) (fun f7 h7 => ?_)
  refine pg_aload_n (pc := 35) hC dX3_init_35 0 rfl rfl ?_
  refine pg_bipush (pc := 36) (v := 12) hC dX3_init_36 (by decide) ?_
  refine pg1_newa (pc := 38) (N := 12) hC h7 4 (by show ¬ (4 = 3 ∨ 4 = 2 ∨ 4 = 0 ∨ 4 = 1); decide) dX3_init_38 1 rfl rfl (Or.inr (Or.inl rfl)) (List.mem_of_getElem? (i := 4) rfl) rfl (by decide) ⟨Nat.le_of_ble_eq_true rfl, Nat.le_of_ble_eq_true rfl⟩ (fun q8 L8 f8 h8 => ?_)
  refine pg1_put (pc := 40) (ty := tyX3 4) (fs := [.ref (q1), .int 0, .ref (q4), .ref (q6), .null, .null, .null, .null, .null, .null, .null, .null, .null, .null, .int 0]) hC h8 rfl dX3_init_40 4 miX3_init_X3 tyX3 tyX3_ok nmX3 (List.mem_of_getElem? (i := 9) rfl) rfl (by decide) rfl rfl rfl (tyX3_ok 4 (by decide)) rfl rfl (Nat.le_of_ble_eq_true rfl) (fun f9 h9 => ?_)
  refine pg_aload_n (pc := 43) hC dX3_init_43 0 rfl rfl ?_
  refine pg_bipush (pc := 44) (v := 120) hC dX3_init_44 (by decide) ?_
  refine pg1_newa (pc := 46) (N := 120) hC h9 5 (by show ¬ (5 = 4 ∨ 5 = 3 ∨ 5 = 2 ∨ 5 = 0 ∨ 5 = 1); decide) dX3_init_46 1 rfl rfl (Or.inr (Or.inl rfl)) (List.mem_of_getElem? (i := 4) rfl) rfl (by decide) ⟨Nat.le_of_ble_eq_true rfl, Nat.le_of_ble_eq_true rfl⟩ (fun q10 L10 f10 h10 => ?_)
  refine pg1_put (pc := 48) (ty := tyX3 5) (fs := [.ref (q1), .int 0, .ref (q4), .ref (q6), .ref (q8), .null, .null, .null, .null, .null, .null, .null, .null, .null, .int 0]) hC h10 rfl dX3_init_48 5 miX3_init_X3 tyX3 tyX3_ok nmX3 (List.mem_of_getElem? (i := 10) rfl) rfl (by decide) rfl rfl rfl (tyX3_ok 5 (by decide)) rfl rfl (Nat.le_of_ble_eq_true rfl) (fun f11 h11 => ?_)
  refine pg_aload_n (pc := 51) hC dX3_init_51 0 rfl rfl ?_
  refine pg_bipush (pc := 52) (v := 10) hC dX3_init_52 (by decide) ?_
  refine pg1_newa (pc := 54) (N := 10) hC h11 6 (by show ¬ (6 = 5 ∨ 6 = 4 ∨ 6 = 3 ∨ 6 = 2 ∨ 6 = 0 ∨ 6 = 1); decide) dX3_init_54 1 rfl rfl (Or.inr (Or.inl rfl)) (List.mem_of_getElem? (i := 4) rfl) rfl (by decide) ⟨Nat.le_of_ble_eq_true rfl, Nat.le_of_ble_eq_true rfl⟩ (fun q12 L12 f12 h12 => ?_)
  refine pg1_put (pc := 56) (ty := tyX3 6) (fs := [.ref (q1), .int 0, .ref (q4), .ref (q6), .ref (q8), .ref (q10), .null, .null, .null, .null, .null, .null, .null, .null, .int 0]) hC h12 rfl dX3_init_56 6 miX3_init_X3 tyX3 tyX3_ok nmX3 (List.mem_of_getElem? (i := 11) rfl) rfl (by decide) rfl rfl rfl (tyX3_ok 6 (by decide)) rfl rfl (Nat.le_of_ble_eq_true rfl) (fun f13 h13 => ?_)
  refine pg_aload_n (pc := 59) hC dX3_init_59 0 rfl rfl ?_
  refine pg_bipush (pc := 60) (v := 10) hC dX3_init_60 (by decide) ?_
  refine pg1_newa (pc := 62) (N := 10) hC h13 7 (by show ¬ (7 = 6 ∨ 7 = 5 ∨ 7 = 4 ∨ 7 = 3 ∨ 7 = 2 ∨ 7 = 0 ∨ 7 = 1); decide) dX3_init_62 1 rfl rfl (Or.inr (Or.inl rfl)) (List.mem_of_getElem? (i := 4) rfl) rfl (by decide) ⟨Nat.le_of_ble_eq_true rfl, Nat.le_of_ble_eq_true rfl⟩ (fun q14 L14 f14 h14 => ?_)
  refine pg1_put (pc := 64) (ty := tyX3 7) (fs := [.ref (q1), .int 0, .ref (q4), .ref (q6), .ref (q8), .ref (q10), .ref (q12), .null, .null, .null, .null, .null, .null, .null, .int 0]) hC h14 rfl dX3_init_64 7 miX3_init_X3 tyX3 tyX3_ok nmX3 (List.mem_of_getElem? (i := 12) rfl) rfl (by decide) rfl rfl rfl (tyX3_ok 7 (by decide)) rfl rfl (Nat.le_of_ble_eq_true rfl) (fun f15 h15 => ?_)
  refine pg_aload_n (pc := 67) hC dX3_init_67 0 rfl rfl ?_
  refine pg_bipush (pc := 68) (v := 10) hC dX3_init_68 (by decide) ?_
  refine pg1_newa (pc := 70) (N := 10) hC h15 8 (by show ¬ (8 = 7 ∨ 8 = 6 ∨ 8 = 5 ∨ 8 = 4 ∨ 8 = 3 ∨ 8 = 2 ∨ 8 = 0 ∨ 8 = 1); decide) dX3_init_70 1 rfl rfl (Or.inr (Or.inl rfl)) (List.mem_of_getElem? (i := 4) rfl) rfl (by decide) ⟨Nat.le_of_ble_eq_true rfl, Nat.le_of_ble_eq_true rfl⟩ (fun q16 L16 f16 h16 => ?_)
  refine pg1_put (pc := 72) (ty := tyX3 8) (fs := [.ref (q1), .int 0, .ref (q4), .ref (q6), .ref (q8), .ref (q10), .ref (q12), .ref (q14), .null, .null, .null, .null, .null, .null, .int 0]) hC h16 rfl dX3_init_72 8 miX3_init_X3 tyX3 tyX3_ok nmX3 (List.mem_of_getElem? (i := 13) rfl) rfl (by decide) rfl rfl rfl (tyX3_ok 8 (by decide)) rfl rfl (Nat.le_of_ble_eq_true rfl) (fun f17 h17 => ?_)
  refine pg_aload_n (pc := 75) hC dX3_init_75 0 rfl rfl ?_
  refine pg_bipush (pc := 76) (v := 10) hC dX3_init_76 (by decide) ?_
  refine pg1_newa (pc := 78) (N := 10) hC h17 9 (by show ¬ (9 = 8 ∨ 9 = 7 ∨ 9 = 6 ∨ 9 = 5 ∨ 9 = 4 ∨ 9 = 3 ∨ 9 = 2 ∨ 9 = 0 ∨ 9 = 1); decide) dX3_init_78 1 rfl rfl (Or.inr (Or.inl rfl)) (List.mem_of_getElem? (i := 4) rfl) rfl (by decide) ⟨Nat.le_of_ble_eq_true rfl, Nat.le_of_ble_eq_true rfl⟩ (fun q18 L18 f18 h18 => ?_)
  refine pg1_put (pc := 80) (ty := tyX3 9) (fs := [.ref (q1), .int 0, .ref (q4), .ref (q6), .ref (q8), .ref (q10), .ref (q12), .ref (q14), .ref (q16), .null, .null, .null, .null, .null, .int 0]) hC h18 rfl dX3_init_80 9 miX3_init_X3 tyX3 tyX3_ok nmX3 (List.mem_of_getElem? (i := 14) rfl) rfl (by decide) rfl rfl rfl (tyX3_ok 9 (by decide)) rfl rfl (Nat.le_of_ble_eq_true rfl) (fun f19 h19 => ?_)
  refine pg_aload_n (pc := 83) hC dX3_init_83 0 rfl rfl ?_
  refine pg_bipush (pc := 84) (v := 10) hC dX3_init_84 (by decide) ?_
  refine pg1_newa (pc := 86) (N := 10) hC h19 10 (by show ¬ (10 = 9 ∨ 10 = 8 ∨ 10 = 7 ∨ 10 = 6 ∨ 10 = 5 ∨ 10 = 4 ∨ 10 = 3 ∨ 10 = 2 ∨ 10 = 0 ∨ 10 = 1); decide) dX3_init_86 1 rfl rfl (Or.inr (Or.inl rfl)) (List.mem_of_getElem? (i := 4) rfl) rfl (by decide) ⟨Nat.le_of_ble_eq_true rfl, Nat.le_of_ble_eq_true rfl⟩ (fun q20 L20 f20 h20 => ?_)
  refine pg1_put (pc := 88) (ty := tyX3 10) (fs := [.ref (q1), .int 0, .ref (q4), .ref (q6), .ref (q8), .ref (q10), .ref (q12), .ref (q14), .ref (q16), .ref (q18), .null, .null, .null, .null, .int 0]) hC h20 rfl dX3_init_88 10 miX3_init_X3 tyX3 tyX3_ok nmX3 (List.mem_of_getElem? (i := 15) rfl) rfl (by decide) rfl rfl rfl (tyX3_ok 10 (by decide)) rfl rfl (Nat.le_of_ble_eq_true rfl) (fun f21 h21 => ?_)
  refine pg_aload_n (pc := 91) hC dX3_init_91 0 rfl rfl ?_
  refine pg_bipush (pc := 92) (v := 10) hC dX3_init_92 (by decide) ?_
  refine pg1_newa (pc := 94) (N := 10) hC h21 11 (by show ¬ (11 = 10 ∨ 11 = 9 ∨ 11 = 8 ∨ 11 = 7 ∨ 11 = 6 ∨ 11 = 5 ∨ 11 = 4 ∨ 11 = 3 ∨ 11 = 2 ∨ 11 = 0 ∨ 11 = 1); decide) dX3_init_94 1 rfl rfl (Or.inr (Or.inl rfl)) (List.mem_of_getElem? (i := 4) rfl) rfl (by decide) ⟨Nat.le_of_ble_eq_true rfl, Nat.le_of_ble_eq_true rfl⟩ (fun q22 L22 f22 h22 => ?_)
  refine pg1_put (pc := 96) (ty := tyX3 11) (fs := [.ref (q1), .int 0, .ref (q4), .ref (q6), .ref (q8), .ref (q10), .ref (q12), .ref (q14), .ref (q16), .ref (q18), .ref (q20), .null, .null, .null, .int 0]) hC h22 rfl dX3_init_96 11 miX3_init_X3 tyX3 tyX3_ok nmX3 (List.mem_of_getElem? (i := 16) rfl) rfl (by decide) rfl rfl rfl (tyX3_ok 11 (by decide)) rfl rfl (Nat.le_of_ble_eq_true rfl) (fun f23 h23 => ?_)
  refine pg_aload_n (pc := 99) hC dX3_init_99 0 rfl rfl ?_
  refine pg_iconst (pc := 100) (v := 5) hC dX3_init_100 (by decide) ?_
  refine pg1_newa (pc := 101) (N := 5) hC h23 12 (by show ¬ (12 = 11 ∨ 12 = 10 ∨ 12 = 9 ∨ 12 = 8 ∨ 12 = 7 ∨ 12 = 6 ∨ 12 = 5 ∨ 12 = 4 ∨ 12 = 3 ∨ 12 = 2 ∨ 12 = 0 ∨ 12 = 1); decide) dX3_init_101 1 rfl rfl (Or.inr (Or.inl rfl)) (List.mem_of_getElem? (i := 4) rfl) rfl (by decide) ⟨Nat.le_of_ble_eq_true rfl, Nat.le_of_ble_eq_true rfl⟩ (fun q24 L24 f24 h24 => ?_)
  refine pg1_put (pc := 103) (ty := tyX3 12) (fs := [.ref (q1), .int 0, .ref (q4), .ref (q6), .ref (q8), .ref (q10), .ref (q12), .ref (q14), .ref (q16), .ref (q18), .ref (q20), .ref (q22), .null, .null, .int 0]) hC h24 rfl dX3_init_103 12 miX3_init_X3 tyX3 tyX3_ok nmX3 (List.mem_of_getElem? (i := 17) rfl) rfl (by decide) rfl rfl rfl (tyX3_ok 12 (by decide)) rfl rfl (Nat.le_of_ble_eq_true rfl) (fun f25 h25 => ?_)
  refine pg_aload_n (pc := 106) hC dX3_init_106 0 rfl rfl ?_
  refine pg_iconst (pc := 107) (v := 5) hC dX3_init_107 (by decide) ?_
  refine pg1_newa (pc := 108) (N := 5) hC h25 13 (by show ¬ (13 = 12 ∨ 13 = 11 ∨ 13 = 10 ∨ 13 = 9 ∨ 13 = 8 ∨ 13 = 7 ∨ 13 = 6 ∨ 13 = 5 ∨ 13 = 4 ∨ 13 = 3 ∨ 13 = 2 ∨ 13 = 0 ∨ 13 = 1); decide) dX3_init_108 1 rfl rfl (Or.inr (Or.inl rfl)) (List.mem_of_getElem? (i := 4) rfl) rfl (by decide) ⟨Nat.le_of_ble_eq_true rfl, Nat.le_of_ble_eq_true rfl⟩ (fun q26 L26 f26 h26 => ?_)
  refine pg1_put (pc := 110) (ty := tyX3 13) (fs := [.ref (q1), .int 0, .ref (q4), .ref (q6), .ref (q8), .ref (q10), .ref (q12), .ref (q14), .ref (q16), .ref (q18), .ref (q20), .ref (q22), .ref (q24), .null, .int 0]) hC h26 rfl dX3_init_110 13 miX3_init_X3 tyX3 tyX3_ok nmX3 (List.mem_of_getElem? (i := 18) rfl) rfl (by decide) rfl rfl rfl (tyX3_ok 13 (by decide)) rfl rfl (Nat.le_of_ble_eq_true rfl) (fun f27 h27 => ?_)
  refine pg_aload_n (pc := 113) hC dX3_init_113 0 rfl rfl ?_
  refine pg_iconst (pc := 114) (v := 0) hC dX3_init_114 (by decide) ?_
  refine pg1_put (pc := 115) (ty := tyX3 14) (fs := [.ref (q1), .int 0, .ref (q4), .ref (q6), .ref (q8), .ref (q10), .ref (q12), .ref (q14), .ref (q16), .ref (q18), .ref (q20), .ref (q22), .ref (q24), .ref (q26), .int 0]) hC h27 rfl dX3_init_115 14 miX3_init_X3 tyX3 tyX3_ok nmX3 (List.mem_of_getElem? (i := 19) rfl) rfl (by decide) rfl rfl rfl (tyX3_ok 14 (by decide)) rfl rfl (Nat.le_of_ble_eq_true rfl) (fun f28 h28 => ?_)
  refine pg_getsN (pc := 118) hC dX3_init_118 hC.2.2.2.2.2.2.2.2.2.1.1.1 hC.2.2.2.2.2.2.2.2.2.1.2.1.2.2.2.2.2 ?_
  refine pg_aload_n (pc := 121) hC dX3_init_121 0 rfl rfl ?_
  refine pg1_get (pc := 122) (v := .ref (q1)) (fs := [.ref (q1), .int 0, .ref (q4), .ref (q6), .ref (q8), .ref (q10), .ref (q12), .ref (q14), .ref (q16), .ref (q18), .ref (q20), .ref (q22), .ref (q24), .ref (q26), .int 0]) hC h28 rfl dX3_init_122 0 miX3_init_X3 (List.mem_of_getElem? (i := 5) rfl) rfl (by decide) rfl rfl ?_
  refine pg_callSNx (pc := 125) (As := [.ref (κ.2.2 0), .ref q1]) (rest := []) hC dX3_init_125 (cX4_copyt_c l (a := q1) (r1 := fun _ => 0) (p1_at h28 (Or.inr (Or.inr (Or.inr (Or.inr (Or.inr (Or.inr (Or.inr (Or.inr (Or.inr (Or.inr (Or.inr (Or.inr (Or.inl rfl)))))))))))))).1 (p1_at h28 (Or.inr (Or.inr (Or.inr (Or.inr (Or.inr (Or.inr (Or.inr (Or.inr (Or.inr (Or.inr (Or.inr (Or.inr (Or.inl rfl)))))))))))))).2) ⟨va_cnB 2 hC.2.2.2.2.1 gX3_init_X4_copy_n61 rfl rfl rfl hC.2.2.2.2.2.2.2.2.2.1.2.1.2.2.2.1 (hC.2.2.2.2.1 _ (List.mem_of_getElem? (i := 21) rfl)) (by decide +kernel) ⟨Nat.le_of_ble_eq_true rfl, Nat.le_of_ble_eq_true rfl⟩, hC.2.2.2.2.1 _ (List.mem_of_getElem? (i := 20) rfl), trivial⟩ rfl rfl (Nat.zero_le _) (Nat.le_of_ble_eq_true rfl) (Nat.le_of_ble_eq_true rfl) ?_
  have hcp := p1_set h28 (k := 0) (q := q1) (Or.inr (Or.inr (Or.inr (Or.inr (Or.inr (Or.inr (Or.inr (Or.inr (Or.inr (Or.inr (Or.inr (Or.inr (Or.inl rfl))))))))))))) rfl (.inl (κ.2.1 1, 5, .inl (va_cpy pv_t0 (fun _ => 0) 0 0 5)))
  obtain ⟨fz, hfz⟩ : ∃ z, z = va_up f28 q1 (.inl (κ.2.1 1, 5, .inl (va_cpy pv_t0 (fun _ => 0) 0 0 5))) := ⟨_, rfl⟩
  rw [← hfz] at hcp ⊢
  refine pg_iconst (pc := 128) (v := 0) hC dX3_init_128 (by decide) ?_
  refine pg_istore_n (pc := 129) (vs' := [(1, .int 0), (0, .ref (a))]) hC dX3_init_129 rfl (by decide) rfl ?_
  refine pg_sub (vs' := [(0, .ref (a)), (1, .int 0)]) [1, 0] rfl ?_
  obtain ⟨X, hX⟩ : ∃ z : Nat → Nat, z = (va_up (va_up (va_up (va_up (va_up (va_up (va_up (va_up (va_up (va_up (va_up (va_up (va_up (fun _ => a) 0 q1) 2 q4) 3 q6) 4 q8) 5 q10) 6 q12) 7 q14) 8 q16) 9 q18) 10 q20) 11 q22) 12 q24) 13 q26) := ⟨_, rfl⟩
  have hz : p1 1 X L f a L26 fz (fun k => k < 14) (pS_E κ X (zS 0 0)) := by
    rw [hX]
    refine p1_to hcp (fun k hk => ?_) (show 1 < 14 by decide) (fun k hk => ?_)
    · have hk : k < 14 := hk
      show k = 13 ∨ k = 12 ∨ k = 11 ∨ k = 10 ∨ k = 9 ∨ k = 8 ∨ k = 7 ∨ k = 6 ∨ k = 5 ∨ k = 4 ∨ k = 3 ∨ k = 2 ∨ k = 0 ∨ k = 1
      omega
    · have hk : k < 14 := hk
      rcases (show k = 0 ∨ k = 1 ∨ k = 2 ∨ k = 3 ∨ k = 4 ∨ k = 5 ∨ k = 6 ∨ k = 7 ∨ k = 8 ∨ k = 9 ∨ k = 10 ∨ k = 11 ∨ k = 12 ∨ k = 13 by omega) with rfl | rfl | rfl | rfl | rfl | rfl | rfl | rfl | rfl | rfl | rfl | rfl | rfl | rfl <;> rfl
  refine pg_loop (pc := 130) (σ := Nat × (Nat → va_E)) (I := fun q => match q with | (k, g) => k ≤ 10 ∧ p1 1 X L f a L26 g (fun c => c < 14) (pS_E κ X (zS k k))) (μ := fun q => match q with | (k, _) => 10 - k) (VS := fun q => match q with | (k, _) => [(0, .ref a), (1, .int (nI k))]) (FF := fun q => match q with | (_, g) => g) ?_ (0, fz) ⟨by decide, hz⟩
  intro q hI ih
  obtain ⟨k, g⟩ := q
  dsimp only at hI ih ⊢
  obtain ⟨hk, hg⟩ := hI
  refine pg_iload_n (pc := 130) hC dX3_init_130 1 rfl rfl ?_
  refine pg_bipush (pc := 131) (v := 10) hC dX3_init_131 (by decide) ?_
  refine pg_icmp_geN (pc := 133) hC 157 dX3_init_133 (by decide) (k) (10) rfl rfl (by omega) (by omega) (fun c1 => ?_) (fun c1 => ?_)
  · skip
    exact pg_vret (pc := 157) hC dX3_init_157 rfl ⟨X, by rw [show (10 : Nat) = k by omega]; exact hg⟩
  · skip
    refine pg_aload_n (pc := 136) hC dX3_init_136 0 rfl rfl ?_
    refine pg1_get (pc := 137) (v := .ref (X 6)) hC hg rfl dX3_init_137 6 miX3_init_X3 (List.mem_of_getElem? (i := 11) rfl) rfl (by decide) rfl rfl ?_
    refine pg_iload_n (pc := 140) hC dX3_init_140 1 rfl rfl ?_
    refine pg_iconst (pc := 141) (v := 5) hC dX3_init_141 (by decide) ?_
    refine pg1_iast (pc := 142) (n := 10) hC hg 6 (show 6 < 14 by decide) rfl rfl dX3_init_142 k rfl (by omega) (by decide) (fun g1 hq142 => ?_)
    have hg3 : p1 1 X L f a L26 g1 (fun c => c < 14) (pS_E κ X (zS (k + 1) k)) := by rw [← pS_E_up6]; exact hq142
    refine pg_aload_n (pc := 143) hC dX3_init_143 0 rfl rfl ?_
    refine pg1_get (pc := 144) (v := .ref (X 11)) hC hg3 rfl dX3_init_144 11 miX3_init_X3 (List.mem_of_getElem? (i := 16) rfl) rfl (by decide) rfl rfl ?_
    refine pg_iload_n (pc := 147) hC dX3_init_147 1 rfl rfl ?_
    refine pg_bipush (pc := 148) (v := (-6)) hC dX3_init_148 (by decide) ?_
    refine pg1_iast (pc := 150) (n := 10) hC hg3 11 (show 11 < 14 by decide) rfl rfl dX3_init_150 k rfl (by omega) (by decide) (fun g2 hq150 => ?_)
    have hg4 : p1 1 X L f a L26 g2 (fun c => c < 14) (pS_E κ X (zS (k + 1) (k + 1))) := by rw [← pS_E_up11]; exact hq150
    refine pg_iinc (pc := 151) (v := nI (k + 1)) (vs' := [(1, .int (nI (k + 1))), (0, .ref (a))]) hC dX3_init_151 1 rfl (nI_add (k) 1) (by decide) rfl ?_
    refine pg_goto (pc := 154) hC 130 dX3_init_154 (by decide) ?_
    refine pg_sub (vs' := [(0, .ref (a)), (1, .int (nI (k + 1)))]) [1, 0] rfl ?_
    exact ih (k + 1, g2) ⟨by omega, hg4⟩ (show 10 - (k + 1) < 10 - k by omega)
