abbrev rmX2_init : Room := { frames := 1, cells := 0, slots := 0, locals := 22 }
theorem miX2_init_X2 : ∀ w ∈ wsX20, w ∈ wsX2_init := fun _ h => List.mem_cons_of_mem _ (List.mem_append_right _ h)
set_option maxHeartbeats 4000000 in
set_option maxRecDepth 20000 in
theorem cX2_init_c (l : Launch) {κ : pv_Kt} {L : List Nat} {f : Nat → va_E} {a : Nat} (hL : a ∈ L) (hf : f a = .inr (2, [.int 0, .int 0, .int 0, .int 0, .int 0])) : pv_Mv l κ yX2_init wsX2_init rmX2_init L f [.ref a] 0 0 (pv_Wn 0 L f a (fun k => k = 0) (fun _ _ => .inr (2, [.int 0, .int 0, .int 0, .int 0, .int (-6)]))) := by
  refine pv_startV (cc := cX2_init) (maxL := 1) (ret := none) (by decide) rfl (Nat.le_of_ble_eq_true rfl) (fun A0 P0 E0 S0 M0 a0 B0 T0 C0 hC => ?_)
  refine pg_sub (vs' := [(0, .ref a)]) [0] rfl ?_
  have h0 := p1_0 0 hL hf
  refine pg_aload_n (pc := 0) hC dX2_init_0 0 rfl rfl ?_
  refine pg_objInit (pc := 1) hC dX2_init_1 (List.mem_of_getElem? (i := 1) rfl) (List.mem_of_getElem? (i := 2) rfl) (List.mem_of_getElem? (i := 3) rfl) (Nat.le_of_ble_eq_true rfl) (Nat.le_of_ble_eq_true rfl) ?_
  refine pg_aload_n (pc := 4) hC dX2_init_4 0 rfl rfl ?_
  refine pg_iconst (pc := 5) (v := 0) hC dX2_init_5 (by decide) ?_
  refine pg1_put (pc := 6) (ty := tyX2 0) (fs := [.int 0, .int 0, .int 0, .int 0, .int 0]) hC h0 rfl dX2_init_6 0 miX2_init_X2 tyX2 tyX2_ok nmX2 (List.mem_of_getElem? (i := 4) rfl) rfl (by decide) rfl rfl rfl (tyX2_ok 0 (by decide)) rfl rfl (Nat.le_of_ble_eq_true rfl) (fun f1 h1 => ?_)
  refine pg_aload_n (pc := 9) hC dX2_init_9 0 rfl rfl ?_
  refine pg_iconst (pc := 10) (v := 0) hC dX2_init_10 (by decide) ?_
  refine pg1_put (pc := 11) (ty := tyX2 1) (fs := [.int 0, .int 0, .int 0, .int 0, .int 0]) hC h1 rfl dX2_init_11 1 miX2_init_X2 tyX2 tyX2_ok nmX2 (List.mem_of_getElem? (i := 5) rfl) rfl (by decide) rfl rfl rfl (tyX2_ok 1 (by decide)) rfl rfl (Nat.le_of_ble_eq_true rfl) (fun f2 h2 => ?_)
  refine pg_aload_n (pc := 14) hC dX2_init_14 0 rfl rfl ?_
  refine pg_iconst (pc := 15) (v := 0) hC dX2_init_15 (by decide) ?_
  refine pg1_put (pc := 16) (ty := tyX2 2) (fs := [.int 0, .int 0, .int 0, .int 0, .int 0]) hC h2 rfl dX2_init_16 2 miX2_init_X2 tyX2 tyX2_ok nmX2 (List.mem_of_getElem? (i := 6) rfl) rfl (by decide) rfl rfl rfl (tyX2_ok 2 (by decide)) rfl rfl (Nat.le_of_ble_eq_true rfl) (fun f3 h3 => ?_)
  refine pg_aload_n (pc := 19) hC dX2_init_19 0 rfl rfl ?_
  refine pg_iconst (pc := 20) (v := 0) hC dX2_init_20 (by decide) ?_
  refine pg1_put (pc := 21) (ty := tyX2 3) (fs := [.int 0, .int 0, .int 0, .int 0, .int 0]) hC h3 rfl dX2_init_21 3 miX2_init_X2 tyX2 tyX2_ok nmX2 (List.mem_of_getElem? (i := 7) rfl) rfl (by decide) rfl rfl rfl (tyX2_ok 3 (by decide)) rfl rfl (Nat.le_of_ble_eq_true rfl) (fun f4 h4 => ?_)
  refine pg_aload_n (pc := 24) hC dX2_init_24 0 rfl rfl ?_
  refine pg_bipush (pc := 25) (v := (-6)) hC dX2_init_25 (by decide) ?_
  refine pg1_put (pc := 27) (ty := tyX2 4) (fs := [.int 0, .int 0, .int 0, .int 0, .int 0]) hC h4 rfl dX2_init_27 4 miX2_init_X2 tyX2 tyX2_ok nmX2 (List.mem_of_getElem? (i := 8) rfl) rfl (by decide) rfl rfl rfl (tyX2_ok 4 (by decide)) rfl rfl (Nat.le_of_ble_eq_true rfl) (fun f5 h5 => ?_)
  exact pg_vret (pc := 30) hC dX2_init_30 rfl ⟨_, p1_to h5 (fun _ hk => hk) rfl (fun k hk => by rw [show k = 0 from hk]; rfl)⟩
abbrev rmX1_init : Room := { frames := 1, cells := 1, slots := 60, locals := 22 }
theorem miX1_init_X1 : ∀ w ∈ wsX10, w ∈ wsX1_init := fun _ h => List.mem_cons_of_mem _ (List.mem_append_right _ h)
set_option maxHeartbeats 4000000 in
set_option maxRecDepth 20000 in
theorem cX1_init_c (l : Launch) {κ : pv_Kt} {L : List Nat} {f : Nat → va_E} {a : Nat} (hL : a ∈ L) (hf : f a = .inr (1, [.null, .int 0])) : pv_Mv l κ yX1_init wsX1_init rmX1_init L f [.ref a] 1 60 (pv_Wn 1 L f a (fun k => k < 2) (fun xs k => if k = 1 then .inr (1, [.ref (xs 0), .int 0]) else .inl (κ.2.1 0, 60, .inl (fun _ => 0)))) := by
  refine pv_startV (cc := cX1_init) (maxL := 1) (ret := none) (by decide) rfl (Nat.le_of_ble_eq_true rfl) (fun A0 P0 E0 S0 M0 a0 B0 T0 C0 hC => ?_)
  refine pg_sub (vs' := [(0, .ref a)]) [0] rfl ?_
  have h0 := p1_0 1 hL hf
  refine pg_aload_n (pc := 0) hC dX1_init_0 0 rfl rfl ?_
  refine pg_objInit (pc := 1) hC dX1_init_1 (List.mem_of_getElem? (i := 1) rfl) (List.mem_of_getElem? (i := 2) rfl) (List.mem_of_getElem? (i := 3) rfl) (Nat.le_of_ble_eq_true rfl) (Nat.le_of_ble_eq_true rfl) ?_
  refine pg_aload_n (pc := 4) hC dX1_init_4 0 rfl rfl ?_
  refine pg_bipush (pc := 5) (v := 60) hC dX1_init_5 (by decide) ?_
  refine pg1_newa (pc := 7) (N := 60) hC h0 0 (by show ¬ (0 = 1); decide) dX1_init_7 0 rfl rfl (Or.inl rfl) (List.mem_of_getElem? (i := 4) rfl) rfl (by decide) ⟨Nat.le_of_ble_eq_true rfl, Nat.le_of_ble_eq_true rfl⟩ (fun q1 L1 f1 h1 => ?_)
  refine pg1_put (pc := 9) (ty := tyX1 0) (fs := [.null, .int 0]) hC h1 rfl dX1_init_9 0 miX1_init_X1 tyX1 tyX1_ok nmX1 (List.mem_of_getElem? (i := 5) rfl) rfl (by decide) rfl rfl rfl (tyX1_ok 0 (by decide)) rfl rfl (Nat.le_of_ble_eq_true rfl) (fun f2 h2 => ?_)
  refine pg_aload_n (pc := 12) hC dX1_init_12 0 rfl rfl ?_
  refine pg_iconst (pc := 13) (v := 0) hC dX1_init_13 (by decide) ?_
  refine pg1_put (pc := 14) (ty := tyX1 1) (fs := [.ref (q1), .int 0]) hC h2 rfl dX1_init_14 1 miX1_init_X1 tyX1 tyX1_ok nmX1 (List.mem_of_getElem? (i := 6) rfl) rfl (by decide) rfl rfl rfl (tyX1_ok 1 (by decide)) rfl rfl (Nat.le_of_ble_eq_true rfl) (fun f3 h3 => ?_)
  exact pg_vret (pc := 17) hC dX1_init_17 rfl ⟨_, p1_to h3 (fun k hk => by have hk : k < 2 := hk; show k = 0 ∨ k = 1; omega) (show 1 < 2 by decide) (fun k hk => by have hk : k < 2 := hk; rcases (show k = 0 ∨ k = 1 by omega) with rfl | rfl <;> rfl)⟩
