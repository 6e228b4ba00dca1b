set_option maxHeartbeats 2000000 in
set_option maxRecDepth 20000 in
theorem cX5_lay1_c (l : Launch) {κ : pv_Kt} {L : List Nat} {f : Nat → va_E} {L0 : List Nat} {f0 : Nat → va_E} {a : Nat} {X : Nat → Nat} {g : Nat → Nat → Int32} (h : p1 2 X L0 f0 a L f (fun c => c < 6) (pM_E κ X g)) (p k : Nat) (hp : p < 10) (hk : k < 6) (v : Int32) : pv_Mv l κ yX5_lay wsX5_lay rmX5_lay L f [.ref a, .int (nI p), .int (nI k), .int v] 0 0 (fun u => u.1 = L ∧ p1 2 X L0 f0 a L u.2 (fun c => c < 6) (pM_E κ X (zu g 0 (54 + 6 * p + k) v))) := by
  refine pv_startV (cc := cX5_lay) (maxL := 4) (ret := none) (by decide) rfl (Nat.le_of_ble_eq_true rfl) (fun A0 P0 E0 S0 M0 a0 B0 T0 C0 hC => ?_)
  refine pg_sub (vs' := [(0, .ref a), (1, .int (nI p)), (2, .int (nI k)), (3, .int v)]) [0, 1, 2, 3] rfl ?_
  refine pg_aload_n (pc := 0) hC dX5_lay_0 0 rfl rfl ?_
  refine pg1_get (pc := 1) (v := .ref (X 0)) hC h rfl dX5_lay_1 0 miX5_lay_X5 (List.mem_of_getElem? (i := 1) rfl) rfl (by decide) rfl rfl ?_
  refine pg_bipush (pc := 4) (v := 54) hC dX5_lay_4 (by decide) ?_
  refine pg_bipush (pc := 6) (v := 6) hC dX5_lay_6 (by decide) ?_
  refine pg_iload_n (pc := 8) hC dX5_lay_8 1 rfl rfl ?_
  refine pg_imul (pc := 9) (v := nI (6 * p)) hC dX5_lay_9 (pk_mul (6) (p)) ?_
  refine pg_iadd (pc := 10) (v := nI (54 + (6 * p))) hC dX5_lay_10 (nI_add (54) (6 * p)) ?_
  refine pg_iload_n (pc := 11) hC dX5_lay_11 2 rfl rfl ?_
  refine pg_iadd (pc := 12) (v := nI (54 + (6 * p) + k)) hC dX5_lay_12 (nI_add (54 + (6 * p)) (k)) ?_
  refine pg_iload_n (pc := 13) hC dX5_lay_13 3 rfl rfl ?_
  refine pg1_iast (pc := 14) (n := 234) hC h 0 (show 0 < 6 by decide) rfl rfl dX5_lay_14 (54 + (6 * p) + k) rfl (by omega) (by decide) (fun f1 h1 => ?_)
  exact pg_vret (pc := 15) hC dX5_lay_15 rfl ⟨rfl, by rw [← pM_E_up0]; exact h1⟩
abbrev rmX5_init : Room := { frames := 1, cells := 5, slots := 2168, locals := 23 }
theorem miX5_init_X5 : ∀ w ∈ wsX50, w ∈ wsX5_init := fun _ h => List.mem_cons_of_mem _ (List.mem_append_right _ h)
set_option maxHeartbeats 8000000 in
set_option maxRecDepth 20000 in
theorem cX5_init_c (l : Launch) {κ : pv_Kt} {L : List Nat} {f : Nat → va_E} {a : Nat} (hL : a ∈ L) (hf : f a = .inr (5, [.null, .null, .int 0, .null, .null, .null, .int 0, .int 0, .int 0, .int 0, .int 0, .int 0])) : pv_Mv l κ yX5_init wsX5_init rmX5_init L f [.ref a] 5 2168 (pv_Wn 2 L f a (fun k => k < 6) (fun xs => pM_E κ xs (zM 10))) := by
  refine pv_startV (cc := cX5_init) (maxL := 2) (ret := none) (by decide) rfl (Nat.le_of_ble_eq_true rfl) (fun A0 P0 E0 S0 M0 a0 B0 T0 C0 hC => ?_)
  refine pg_sub (vs' := [(0, .ref a)]) [0] rfl ?_
  have h0 := p1_0 2 hL hf
  refine pg_aload_n (pc := 0) hC dX5_init_0 0 rfl rfl ?_
  refine pg_objInit (pc := 1) hC dX5_init_1 (List.mem_of_getElem? (i := 1) rfl) (List.mem_of_getElem? (i := 2) rfl) (List.mem_of_getElem? (i := 3) rfl) (Nat.le_of_ble_eq_true rfl) (Nat.le_of_ble_eq_true rfl) ?_
  refine pg_aload_n (pc := 4) hC dX5_init_4 0 rfl rfl ?_
  refine pg_sipush (pc := 5) (v := 234) hC dX5_init_5 (by decide) ?_
  refine pg1_newa (pc := 8) (N := 234) hC h0 0 (by show ¬ (0 = 2); decide) dX5_init_8 1 rfl rfl (Or.inr (Or.inl rfl)) (List.mem_of_getElem? (i := 4) rfl) rfl (by decide) ⟨Nat.le_of_ble_eq_true rfl, Nat.le_of_ble_eq_true rfl⟩ (fun q1 L1 f1 h1 => ?_)
  refine pg1_put (pc := 10) (ty := tyX5 0) (fs := [.null, .null, .int 0, .null, .null, .null, .int 0, .int 0, .int 0, .int 0, .int 0, .int 0]) hC h1 rfl dX5_init_10 0 miX5_init_X5 tyX5 tyX5_ok nmX5 (List.mem_of_getElem? (i := 5) rfl) rfl (by decide) rfl rfl rfl (tyX5_ok 0 (by decide)) rfl rfl (Nat.le_of_ble_eq_true rfl) (fun f2 h2 => ?_)
  refine pg_aload_n (pc := 13) hC dX5_init_13 0 rfl rfl ?_
  refine pg_sipush (pc := 14) (v := 1404) hC dX5_init_14 (by decide) ?_
  refine pg1_newa (pc := 17) (N := 1404) hC h2 1 (by show ¬ (1 = 0 ∨ 1 = 2); decide) dX5_init_17 1 rfl rfl (Or.inr (Or.inl rfl)) (List.mem_of_getElem? (i := 4) rfl) rfl (by decide) ⟨Nat.le_of_ble_eq_true rfl, Nat.le_of_ble_eq_true rfl⟩ (fun q3 L3 f3 h3 => ?_)
  refine pg1_put (pc := 19) (ty := tyX5 1) (fs := [.ref (q1), .null, .int 0, .null, .null, .null, .int 0, .int 0, .int 0, .int 0, .int 0, .int 0]) hC h3 rfl dX5_init_19 1 miX5_init_X5 tyX5 tyX5_ok nmX5 (List.mem_of_getElem? (i := 6) rfl) rfl (by decide) rfl rfl rfl (tyX5_ok 1 (by decide)) rfl rfl (Nat.le_of_ble_eq_true rfl) (fun f4 h4 => ?_)
  refine pg_aload_n (pc := 22) hC dX5_init_22 0 rfl rfl ?_
  refine pg_sipush (pc := 23) (v := 468) hC dX5_init_23 (by decide) ?_
  refine pg1_newa (pc := 26) (N := 468) hC h4 3 (by show ¬ (3 = 1 ∨ 3 = 0 ∨ 3 = 2); decide) dX5_init_26 1 rfl rfl (Or.inr (Or.inl rfl)) (List.mem_of_getElem? (i := 4) rfl) rfl (by decide) ⟨Nat.le_of_ble_eq_true rfl, Nat.le_of_ble_eq_true rfl⟩ (fun q5 L5 f5 h5 => ?_)
  refine pg1_put (pc := 28) (ty := tyX5 3) (fs := [.ref (q1), .ref (q3), .int 0, .null, .null, .null, .int 0, .int 0, .int 0, .int 0, .int 0, .int 0]) hC h5 rfl dX5_init_28 3 miX5_init_X5 tyX5 tyX5_ok nmX5 (List.mem_of_getElem? (i := 7) rfl) rfl (by decide) rfl rfl rfl (tyX5_ok 3 (by decide)) rfl rfl (Nat.le_of_ble_eq_true rfl) (fun f6 h6 => ?_)
  refine pg_aload_n (pc := 31) hC dX5_init_31 0 rfl rfl ?_
  refine pg_iconst (pc := 32) (v := 2) hC dX5_init_32 (by decide) ?_
  refine pg1_newa (pc := 33) (N := 2) hC h6 4 (by show ¬ (4 = 3 ∨ 4 = 1 ∨ 4 = 0 ∨ 4 = 2); decide) dX5_init_33 2 rfl rfl (Or.inr (Or.inr rfl)) (List.mem_of_getElem? (i := 8) rfl) rfl (by decide) ⟨Nat.le_of_ble_eq_true rfl, Nat.le_of_ble_eq_true rfl⟩ (fun q7 L7 f7 h7 => ?_)
  refine pg1_put (pc := 35) (ty := tyX5 4) (fs := [.ref (q1), .ref (q3), .int 0, .ref (q5), .null, .null, .int 0, .int 0, .int 0, .int 0, .int 0, .int 0]) hC h7 rfl dX5_init_35 4 miX5_init_X5 tyX5 tyX5_ok nmX5 (List.mem_of_getElem? (i := 9) rfl) rfl (by decide) rfl rfl rfl (tyX5_ok 4 (by decide)) rfl rfl (Nat.le_of_ble_eq_true rfl) (fun f8 h8 => ?_)
  refine pg_aload_n (pc := 38) hC dX5_init_38 0 rfl rfl ?_
  refine pg_bipush (pc := 39) (v := 60) hC dX5_init_39 (by decide) ?_
  refine pg1_newa (pc := 41) (N := 60) hC h8 5 (by show ¬ (5 = 4 ∨ 5 = 3 ∨ 5 = 1 ∨ 5 = 0 ∨ 5 = 2); decide) dX5_init_41 1 rfl rfl (Or.inr (Or.inl rfl)) (List.mem_of_getElem? (i := 4) rfl) rfl (by decide) ⟨Nat.le_of_ble_eq_true rfl, Nat.le_of_ble_eq_true rfl⟩ (fun q9 L9 f9 h9 => ?_)
  refine pg1_put (pc := 43) (ty := tyX5 5) (fs := [.ref (q1), .ref (q3), .int 0, .ref (q5), .ref (q7), .null, .int 0, .int 0, .int 0, .int 0, .int 0, .int 0]) hC h9 rfl dX5_init_43 5 miX5_init_X5 tyX5 tyX5_ok nmX5 (List.mem_of_getElem? (i := 10) rfl) rfl (by decide) rfl rfl rfl (tyX5_ok 5 (by decide)) rfl rfl (Nat.le_of_ble_eq_true rfl) (fun f10 h10 => ?_)
  obtain ⟨X, hX⟩ : ∃ z : Nat → Nat, z = (va_up (va_up (va_up (va_up (va_up (fun _ => a) 0 q1) 1 q3) 3 q5) 4 q7) 5 q9) := ⟨_, rfl⟩
  have hz : p1 2 X L f a L9 f10 (fun k => k < 6) (pM_E κ X (fun _ _ => 0)) := by
    rw [hX]
    refine p1_to h10 (fun k hk => ?_) (show 2 < 6 by decide) (fun k hk => ?_)
    · have hk : k < 6 := hk
      show k = 5 ∨ k = 4 ∨ k = 3 ∨ k = 1 ∨ k = 0 ∨ k = 2
      omega
    · have hk : k < 6 := hk
      rcases (show k = 0 ∨ k = 1 ∨ k = 2 ∨ k = 3 ∨ k = 4 ∨ k = 5 by omega) with rfl | rfl | rfl | rfl | rfl | rfl <;> rfl
  refine pg_aload_n (pc := 46) hC dX5_init_46 0 rfl rfl ?_
  refine pg1_get (pc := 47) (v := .ref (X 0)) hC hz rfl dX5_init_47 0 miX5_init_X5 (List.mem_of_getElem? (i := 5) rfl) rfl (by decide) rfl rfl ?_
  refine pg_iconst (pc := 50) (v := 0) hC dX5_init_50 (by decide) ?_
  refine pg_bipush (pc := 51) (v := 40) hC dX5_init_51 (by decide) ?_
  refine pg1_iast (pc := 53) (n := 234) hC hz 0 (show 0 < 6 by decide) rfl rfl dX5_init_53 (0) rfl (by decide) (by decide) (fun f11 h11 => ?_)
  have zh11 : p1 2 X L f a L9 f11 (fun c => c < 6) (pM_E κ X (zu (fun _ _ => 0) 0 0 40)) := by rw [← pM_E_up0]; exact h11
  refine pg_aload_n (pc := 54) hC dX5_init_54 0 rfl rfl ?_
  refine pg1_get (pc := 55) (v := .ref (X 0)) hC zh11 rfl dX5_init_55 0 miX5_init_X5 (List.mem_of_getElem? (i := 5) rfl) rfl (by decide) rfl rfl ?_
  refine pg_iconst (pc := 58) (v := 1) hC dX5_init_58 (by decide) ?_
  refine pg_bipush (pc := 59) (v := 25) hC dX5_init_59 (by decide) ?_
  refine pg1_iast (pc := 61) (n := 234) hC zh11 0 (show 0 < 6 by decide) rfl rfl dX5_init_61 (1) rfl (by decide) (by decide) (fun f12 h12 => ?_)
  have zh12 : p1 2 X L f a L9 f12 (fun c => c < 6) (pM_E κ X (zu (zu (fun _ _ => 0) 0 0 40) 0 1 25)) := by rw [← pM_E_up0]; exact h12
  refine pg_aload_n (pc := 62) hC dX5_init_62 0 rfl rfl ?_
  refine pg1_get (pc := 63) (v := .ref (X 0)) hC zh12 rfl dX5_init_63 0 miX5_init_X5 (List.mem_of_getElem? (i := 5) rfl) rfl (by decide) rfl rfl ?_
  refine pg_iconst (pc := 66) (v := 2) hC dX5_init_66 (by decide) ?_
  refine pg_iconst (pc := 67) (v := 3) hC dX5_init_67 (by decide) ?_
  refine pg1_iast (pc := 68) (n := 234) hC zh12 0 (show 0 < 6 by decide) rfl rfl dX5_init_68 (2) rfl (by decide) (by decide) (fun f13 h13 => ?_)
  have zh13 : p1 2 X L f a L9 f13 (fun c => c < 6) (pM_E κ X (zu (zu (zu (fun _ _ => 0) 0 0 40) 0 1 25) 0 2 3)) := by rw [← pM_E_up0]; exact h13
  refine pg_aload_n (pc := 69) hC dX5_init_69 0 rfl rfl ?_
  refine pg1_get (pc := 70) (v := .ref (X 0)) hC zh13 rfl dX5_init_70 0 miX5_init_X5 (List.mem_of_getElem? (i := 5) rfl) rfl (by decide) rfl rfl ?_
  refine pg_iconst (pc := 73) (v := 3) hC dX5_init_73 (by decide) ?_
  refine pg_iconst (pc := 74) (v := 5) hC dX5_init_74 (by decide) ?_
  refine pg1_iast (pc := 75) (n := 234) hC zh13 0 (show 0 < 6 by decide) rfl rfl dX5_init_75 (3) rfl (by decide) (by decide) (fun f14 h14 => ?_)
  have zh14 : p1 2 X L f a L9 f14 (fun c => c < 6) (pM_E κ X (zu (zu (zu (zu (fun _ _ => 0) 0 0 40) 0 1 25) 0 2 3) 0 3 5)) := by rw [← pM_E_up0]; exact h14
  refine pg_aload_n (pc := 76) hC dX5_init_76 0 rfl rfl ?_
  refine pg1_get (pc := 77) (v := .ref (X 0)) hC zh14 rfl dX5_init_77 0 miX5_init_X5 (List.mem_of_getElem? (i := 5) rfl) rfl (by decide) rfl rfl ?_
  refine pg_iconst (pc := 80) (v := 4) hC dX5_init_80 (by decide) ?_
  refine pg_iconst (pc := 81) (v := 4) hC dX5_init_81 (by decide) ?_
  refine pg1_iast (pc := 82) (n := 234) hC zh14 0 (show 0 < 6 by decide) rfl rfl dX5_init_82 (4) rfl (by decide) (by decide) (fun f15 h15 => ?_)
  have zh15 : p1 2 X L f a L9 f15 (fun c => c < 6) (pM_E κ X (zu (zu (zu (zu (zu (fun _ _ => 0) 0 0 40) 0 1 25) 0 2 3) 0 3 5) 0 4 4)) := by rw [← pM_E_up0]; exact h15
  refine pg_iconst (pc := 83) (v := 0) hC dX5_init_83 (by decide) ?_
  refine pg_istore_n (pc := 84) (vs' := [(1, .int 0), (0, .ref (a))]) hC dX5_init_84 rfl (by decide) rfl ?_
  refine pg_sub (vs' := [(0, .ref (a)), (1, .int 0)]) [1, 0] rfl ?_
  refine pg_loop (pc := 85) (σ := Nat × (Nat → va_E)) (I := fun q => match q with | (k, g) => k ≤ 10 ∧ p1 2 X L f a L9 g (fun c => c < 6) (pM_E κ X (zM k))) (μ := fun q => match q with | (k, _) => 10 - k) (VS := fun q => match q with | (k, _) => [(0, .ref a), (1, .int (nI k))]) (FF := fun q => match q with | (_, g) => g) ?_ (0, f15) ⟨by decide, zh15⟩
  intro q hI ih
  obtain ⟨k, g⟩ := q
  dsimp only at hI ih ⊢
  obtain ⟨hk, hg⟩ := hI
  refine pg_iload_n (pc := 85) hC dX5_init_85 1 rfl rfl ?_
  refine pg_bipush (pc := 86) (v := 10) hC dX5_init_86 (by decide) ?_
  refine pg_icmp_geN (pc := 88) hC 112 dX5_init_88 (by decide) (k) (10) rfl rfl (by omega) (by omega) (fun c1 => ?_) (fun c1 => ?_)
  · skip
    exact pg_vret (pc := 112) hC dX5_init_112 rfl ⟨X, by rw [show (10 : Nat) = k by omega]; exact hg⟩
  · skip
    refine pg_aload_n (pc := 91) hC dX5_init_91 0 rfl rfl ?_
    refine pg_iload_n (pc := 92) hC dX5_init_92 1 rfl rfl ?_
    refine pg_iconst (pc := 93) (v := 0) hC dX5_init_93 (by decide) ?_
    refine pg_iconst (pc := 94) (v := 5) hC dX5_init_94 (by decide) ?_
    refine pg_callVv (pc := 95) (As := [.int (nI k), .int 0, .int 5]) (rest := []) hC dX5_init_95 (cX5_lay1_c l hg k 0 (by omega) (by decide) 5) (cwV 3 hC.2.2.2.2.1 gX5_init_X5_lay rfl rfl rfl (by decide +kernel) ⟨Nat.le_of_ble_eq_true rfl, Nat.le_of_ble_eq_true rfl⟩) (p1_o hg).1 ((p1_o hg).2.trans rfl) rfl rfl rfl rfl (Nat.zero_le _) ⟨Nat.le_of_ble_eq_true rfl, Nat.le_of_ble_eq_true rfl⟩ (fun u hu => ?_)
    obtain ⟨L95, f16⟩ := u
    obtain ⟨hL95, h16⟩ := hu
    have hL95 : L9 = L95 := Eq.symm hL95
    subst hL95
    refine pg_aload_n (pc := 98) hC dX5_init_98 0 rfl rfl ?_
    refine pg_iload_n (pc := 99) hC dX5_init_99 1 rfl rfl ?_
    refine pg_iconst (pc := 100) (v := 4) hC dX5_init_100 (by decide) ?_
    refine pg_bipush (pc := 101) (v := (-6)) hC dX5_init_101 (by decide) ?_
    refine pg_callVv (pc := 103) (As := [.int (nI k), .int 4, .int (-6)]) (rest := []) hC dX5_init_103 (cX5_lay1_c l h16 k 4 (by omega) (by decide) (-6)) (cwV 3 hC.2.2.2.2.1 gX5_init_X5_lay rfl rfl rfl (by decide +kernel) ⟨Nat.le_of_ble_eq_true rfl, Nat.le_of_ble_eq_true rfl⟩) (p1_o h16).1 ((p1_o h16).2.trans rfl) rfl rfl rfl rfl (Nat.zero_le _) ⟨Nat.le_of_ble_eq_true rfl, Nat.le_of_ble_eq_true rfl⟩ (fun u hu => ?_)
    obtain ⟨L103, f17⟩ := u
    obtain ⟨hL103, h17⟩ := hu
    have hL103 : L9 = L103 := Eq.symm hL103
    subst hL103
    refine pg_iinc (pc := 106) (v := nI (k + 1)) (vs' := [(1, .int (nI (k + 1))), (0, .ref (a))]) hC dX5_init_106 1 rfl (nI_add (k) 1) (by decide) rfl ?_
    refine pg_goto (pc := 109) hC 85 dX5_init_109 (by decide) ?_
    refine pg_sub (vs' := [(0, .ref (a)), (1, .int (nI (k + 1)))]) [1, 0] rfl ?_
    exact ih (k + 1, f17) ⟨by omega, h17⟩ (show 10 - (k + 1) < 10 - k by omega)
