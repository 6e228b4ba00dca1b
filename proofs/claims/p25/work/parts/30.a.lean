abbrev rmX4_isWithin : Room := { frames := 0, cells := 0, slots := 0, locals := 0 }
set_option maxHeartbeats 2000000 in
set_option maxRecDepth 20000 in
theorem cX4_isWithin_c (l : Launch) {κ : pv_Kt} {L : List Nat} {f : Nat → va_E} (v lo hi : Int32) : pv_Mi l κ yX4_isWithin wsX4_isWithin rmX4_isWithin L f [.int v, .int lo, .int hi] 0 0 (pv_R L f (bW v lo hi)) := by
  refine pv_startI (cc := cX4_isWithin) (maxL := 3) (ret := (some .boolean)) (by decide) rfl (Nat.le_of_ble_eq_true rfl) (fun A0 P0 E0 S0 M0 a0 B0 T0 C0 hC => ?_)
  refine pg_sub (vs' := [(0, .int v), (1, .int lo), (2, .int hi)]) [0, 1, 2] rfl ?_
  refine pg_iload_n (pc := 0) hC dX4_isWithin_0 0 rfl rfl ?_
  refine pg_iload_n (pc := 1) hC dX4_isWithin_1 1 rfl rfl ?_
  refine pg_icmp_lt (pc := 2) hC 14 dX4_isWithin_2 (by decide)  (fun c1 => ?_) (fun c1 => ?_)
  · skip
    refine pg_iconst (pc := 14) (v := 0) hC dX4_isWithin_14 (by decide) ?_
    exact pg_zret (pc := 15) hC dX4_isWithin_15 rfl rfl ⟨(by first | rfl | (unfold bW; simp only [c1, if_true, if_false, ite_true, ite_false]; done) | (simp [bW, c1]; done)), rfl⟩
  · skip
    refine pg_iload_n (pc := 5) hC dX4_isWithin_5 0 rfl rfl ?_
    refine pg_iload_n (pc := 6) hC dX4_isWithin_6 2 rfl rfl ?_
    refine pg_icmp_gt (pc := 7) hC 14 dX4_isWithin_7 (by decide)  (fun c2 => ?_) (fun c2 => ?_)
    · skip
      refine pg_iconst (pc := 14) (v := 0) hC dX4_isWithin_14 (by decide) ?_
      exact pg_zret (pc := 15) hC dX4_isWithin_15 rfl rfl ⟨(by first | rfl | (unfold bW; simp only [c1, c2, if_true, if_false, ite_true, ite_false]; done) | (simp [bW, c1, c2]; done)), rfl⟩
    · skip
      refine pg_iconst (pc := 10) (v := 1) hC dX4_isWithin_10 (by decide) ?_
      refine pg_goto (pc := 11) hC 15 dX4_isWithin_11 (by decide) ?_
      exact pg_zret (pc := 15) hC dX4_isWithin_15 rfl rfl ⟨(by first | rfl | (unfold bW; simp only [c1, c2, if_true, if_false, ite_true, ite_false]; done) | (simp [bW, c1, c2]; done)), rfl⟩
abbrev rmX4_isPupil : Room := { frames := 1, cells := 0, slots := 0, locals := 22 }
set_option maxHeartbeats 2000000 in
set_option maxRecDepth 20000 in
theorem cX4_isPupil_c (l : Launch) {κ : pv_Kt} {L : List Nat} {f : Nat → va_E} (v : Int32) : pv_Mi l κ yX4_isPupil wsX4_isPupil rmX4_isPupil L f [.int v] 0 0 (pv_R L f (bW v 0 9)) := by
  refine pv_startI (cc := cX4_isPupil) (maxL := 1) (ret := (some .boolean)) (by decide) rfl (Nat.le_of_ble_eq_true rfl) (fun A0 P0 E0 S0 M0 a0 B0 T0 C0 hC => ?_)
  refine pg_sub (vs' := [(0, .int v)]) [0] rfl ?_
  refine pg_iload_n (pc := 0) hC dX4_isPupil_0 0 rfl rfl ?_
  refine pg_iconst (pc := 1) (v := 0) hC dX4_isPupil_1 (by decide) ?_
  refine pg_bipush (pc := 2) (v := 9) hC dX4_isPupil_2 (by decide) ?_
  refine pg_callSRi (pc := 4) (As := [.int v, .int 0, .int 9]) (rest := []) hC dX4_isPupil_4 (cX4_isWithin_c l v 0 9) (va_cwS 3 hC.2.2.2.2.1 gX4_isPupil_X4_isWithin rfl rfl rfl (by decide +kernel) ⟨Nat.le_of_ble_eq_true rfl, Nat.le_of_ble_eq_true rfl⟩) rfl rfl (Nat.le_of_ble_eq_true rfl) (Nat.zero_le _) (Nat.zero_le _) ?_
  exact pg_zret (pc := 7) hC dX4_isPupil_7 rfl (bW_z _ _ _) ⟨(by first | rfl | (unfold bW; simp only [if_true, if_false, ite_true, ite_false]; done) | (simp [bW]; done)), rfl⟩
abbrev rmX4_classOf : Room := { frames := 0, cells := 0, slots := 0, locals := 0 }
set_option maxHeartbeats 2000000 in
set_option maxRecDepth 20000 in
theorem cX4_classOf_c (l : Launch) {κ : pv_Kt} {L : List Nat} {f : Nat → va_E} (p : Nat) (hp : p < 2 ^ 30) : pv_Mi l κ yX4_classOf wsX4_classOf rmX4_classOf L f [.int (nI p)] 0 0 (pv_R L f (nI (p / 2))) := by
  refine pv_startI (cc := cX4_classOf) (maxL := 1) (ret := (some .int)) (by decide) rfl (Nat.le_of_ble_eq_true rfl) (fun A0 P0 E0 S0 M0 a0 B0 T0 C0 hC => ?_)
  refine pg_sub (vs' := [(0, .int (nI p))]) [0] rfl ?_
  refine pg_iload_n (pc := 0) hC dX4_classOf_0 0 rfl rfl ?_
  refine pg_iconst (pc := 1) (v := 2) hC dX4_classOf_1 (by decide) ?_
  refine pg_idiv (pc := 2) (v := nI (p / 2)) hC dX4_classOf_2 (by decide) (pk_div (a := p) (d := 2) (by omega) (by omega) (by omega)) ?_
  exact pg_iret (pc := 3) hC dX4_classOf_3 rfl ⟨(by first | rfl | simp []), rfl⟩
abbrev rmX3_hasExcuse : Room := { frames := 0, cells := 0, slots := 0, locals := 0 }
theorem miX3_hasExcuse_X3 : ∀ w ∈ wsX30, w ∈ wsX3_hasExcuse := fun _ h => List.mem_cons_of_mem _ (List.mem_append_right _ h)
set_option maxHeartbeats 2000000 in
set_option maxRecDepth 20000 in
theorem cX3_hasExcuse_c (l : Launch) {κ : pv_Kt} {L : List Nat} {f : Nat → va_E} {x : Nat → Nat → Nat} {i : Nat} (hi : i < 9) {Z : Nat → Nat → Nat → Int32} {z : Nat → Nat → Int32} (hok : pv_ok κ x L f (va_up Z i z)) (v : Int32) : pv_Mi l κ yX3_hasExcuse wsX3_hasExcuse rmX3_hasExcuse L f [.ref (x i 1), .int v] 0 0 (pv_R L f (bH z v)) := by
  refine pv_startI (cc := cX3_hasExcuse) (maxL := 2) (ret := (some .boolean)) (by decide) rfl (Nat.le_of_ble_eq_true rfl) (fun A0 P0 E0 S0 M0 a0 B0 T0 C0 hC => ?_)
  refine pg_sub (vs' := [(0, .ref (x i 1)), (1, .int v)]) [0, 1] rfl ?_
  refine pg_iload_n (pc := 0) hC dX3_hasExcuse_0 1 rfl rfl ?_
  refine pg_if_lt (pc := 1) hC 16 dX3_hasExcuse_1 (by decide)  (fun c1 => ?_) (fun c1 => ?_)
  · skip
    refine pg_iconst (pc := 16) (v := 0) hC dX3_hasExcuse_16 (by decide) ?_
    exact pg_zret (pc := 17) hC dX3_hasExcuse_17 rfl rfl ⟨(by first | rfl | (unfold bH; simp only [c1, if_true, if_false, ite_true, ite_false]; done) | (simp [bH, c1]; done)), rfl⟩
  · skip
    refine pg_iload_n (pc := 4) hC dX3_hasExcuse_4 1 rfl rfl ?_
    refine pg_aload_n (pc := 5) hC dX3_hasExcuse_5 0 rfl rfl ?_
    refine pgS_geti (pc := 6) (v := z 1 0) hC dX3_hasExcuse_6 1 (List.mem_of_getElem? (i := 1) rfl) miX3_hasExcuse_X3 hok hi (by decide) rfl ?_
    refine pg_icmp_ge (pc := 9) hC 16 dX3_hasExcuse_9 (by decide)  (fun c2 => ?_) (fun c2 => ?_)
    · skip
      refine pg_iconst (pc := 16) (v := 0) hC dX3_hasExcuse_16 (by decide) ?_
      exact pg_zret (pc := 17) hC dX3_hasExcuse_17 rfl rfl ⟨(by first | rfl | (unfold bH; simp only [c1, c2, if_true, if_false, ite_true, ite_false]; done) | (simp [bH, c1, c2]; done)), rfl⟩
    · skip
      refine pg_iconst (pc := 12) (v := 1) hC dX3_hasExcuse_12 (by decide) ?_
      refine pg_goto (pc := 13) hC 17 dX3_hasExcuse_13 (by decide) ?_
      exact pg_zret (pc := 17) hC dX3_hasExcuse_17 rfl rfl ⟨(by first | rfl | (unfold bH; simp only [c1, c2, if_true, if_false, ite_true, ite_false]; done) | (simp [bH, c1, c2]; done)), rfl⟩
abbrev rmX3_usesOf : Room := { frames := 0, cells := 0, slots := 0, locals := 0 }
theorem miX3_usesOf_X3 : ∀ w ∈ wsX30, w ∈ wsX3_usesOf := fun _ h => List.mem_cons_of_mem _ (List.mem_append_right _ h)
set_option maxHeartbeats 2000000 in
set_option maxRecDepth 20000 in
theorem cX3_usesOf_c (l : Launch) {κ : pv_Kt} {L : List Nat} {f : Nat → va_E} {x : Nat → Nat → Nat} {i : Nat} (hi : i < 9) {Z : Nat → Nat → Nat → Int32} {z : Nat → Nat → Int32} (hok : pv_ok κ x L f (va_up Z i z)) (p e : Nat) (hp : p < 10) (he : e < 12) : pv_Mi l κ yX3_usesOf wsX3_usesOf rmX3_usesOf L f [.ref (x i 1), .int (nI p), .int (nI e)] 0 0 (pv_R L f (sU z p e)) := by
  refine pv_startI (cc := cX3_usesOf) (maxL := 3) (ret := (some .int)) (by decide) rfl (Nat.le_of_ble_eq_true rfl) (fun A0 P0 E0 S0 M0 a0 B0 T0 C0 hC => ?_)
  refine pg_sub (vs' := [(0, .ref (x i 1)), (1, .int (nI p)), (2, .int (nI e))]) [0, 1, 2] rfl ?_
  refine pg_aload_n (pc := 0) hC dX3_usesOf_0 0 rfl rfl ?_
  refine pgS_geta (pc := 1) hC dX3_usesOf_1 5 (List.mem_of_getElem? (i := 1) rfl) miX3_usesOf_X3 hok hi (by decide) (by decide) rfl ?_
  refine pg_iload_n (pc := 4) hC dX3_usesOf_4 1 rfl rfl ?_
  refine pg_bipush (pc := 5) (v := 12) hC dX3_usesOf_5 (by decide) ?_
  refine pg_imul (pc := 7) (v := nI (p * 12)) hC dX3_usesOf_7 (pk_mul (p) (12)) ?_
  refine pg_iload_n (pc := 8) hC dX3_usesOf_8 2 rfl rfl ?_
  refine pg_iadd (pc := 9) (v := nI (p * 12 + e)) hC dX3_usesOf_9 (nI_add (p * 12) (e)) ?_
  refine pgS_iald (pc := 10) (v := z 5 (p * 12 + e)) hC dX3_usesOf_10 5 (p * 12 + e) hok hi (by decide) (by decide) rfl (show (p * 12 + e) < 120 by omega) rfl ?_
  exact pg_iret (pc := 11) hC dX3_usesOf_11 rfl ⟨(by first | rfl | simp []), rfl⟩
abbrev rmX3_usesByPupil : Room := { frames := 1, cells := 0, slots := 0, locals := 22 }
set_option maxHeartbeats 2000000 in
set_option maxRecDepth 20000 in
theorem cX3_usesByPupil_c (l : Launch) {κ : pv_Kt} {L : List Nat} {f : Nat → va_E} {x : Nat → Nat → Nat} {i : Nat} (hi : i < 9) {Z : Nat → Nat → Nat → Int32} {z : Nat → Nat → Int32} (hok : pv_ok κ x L f (va_up Z i z)) (p : Nat) (hp : p < 10) : pv_Mi l κ yX3_usesByPupil wsX3_usesByPupil rmX3_usesByPupil L f [.ref (x i 1), .int (nI p)] 0 0 (pv_R L f (sUP z p)) := by
  refine pv_startI (cc := cX3_usesByPupil) (maxL := 4) (ret := (some .int)) (by decide) rfl (Nat.le_of_ble_eq_true rfl) (fun A0 P0 E0 S0 M0 a0 B0 T0 C0 hC => ?_)
  refine pg_sub (vs' := [(0, .ref (x i 1)), (1, .int (nI p))]) [0, 1] rfl ?_
  refine pg_iconst (pc := 0) (v := 0) hC dX3_usesByPupil_0 (by decide) ?_
  refine pg_istore_n (pc := 1) (vs' := [(2, .int 0), (0, .ref (x i 1)), (1, .int (nI p))]) hC dX3_usesByPupil_1 rfl (by decide) rfl ?_
  refine pg_iconst (pc := 2) (v := 0) hC dX3_usesByPupil_2 (by decide) ?_
  refine pg_istore_n (pc := 3) (vs' := [(3, .int 0), (2, .int 0), (0, .ref (x i 1)), (1, .int (nI p))]) hC dX3_usesByPupil_3 rfl (by decide) rfl ?_
  refine pg_sub (vs' := [(0, .ref (x i 1)), (1, .int (nI p)), (2, .int 0), (3, .int 0)]) [2, 3, 1, 0] rfl ?_
  refine pg_loop (pc := 4) (σ := Nat) (I := fun q => match q with | k => k ≤ 12) (μ := fun q => match q with | k => 12 - k) (VS := fun q => match q with | k => [(0, .ref (x i 1)), (1, .int (nI p)), (2, .int (bx_sum (fun e => sU z p e) k)), (3, .int (nI k))]) (FF := fun q => match q with | k => f) ?_ (0) (by decide)
  intro q hI ih1
  obtain ⟨k, rfl⟩ : ∃ z, z = q := ⟨_, rfl⟩
  dsimp only at hI ih1 ⊢
  have hI2 := hI
  obtain hk := hI
  refine pg_iload_n (pc := 4) hC dX3_usesByPupil_4 3 rfl rfl ?_
  refine pg_bipush (pc := 5) (v := 12) hC dX3_usesByPupil_5 (by decide) ?_
  refine pg_icmp_geN (pc := 7) hC 25 dX3_usesByPupil_7 (by decide) (k) (12) rfl rfl (by omega) (by omega) (fun c2 => ?_) (fun c2 => ?_)
  · skip
    refine pg_iload_n (pc := 25) hC dX3_usesByPupil_25 2 rfl rfl ?_
    exact pg_iret (pc := 26) hC dX3_usesByPupil_26 rfl ⟨(by rw [show k = 12 by omega]; rfl), rfl⟩
  · skip
    refine pg_iload_n (pc := 10) hC dX3_usesByPupil_10 2 rfl rfl ?_
    refine pg_aload_n (pc := 11) hC dX3_usesByPupil_11 0 rfl rfl ?_
    refine pg_iload_n (pc := 12) hC dX3_usesByPupil_12 1 rfl rfl ?_
    refine pg_iload_n (pc := 13) hC dX3_usesByPupil_13 3 rfl rfl ?_
    refine pg_callVRi (pc := 14) (As := [.int (nI p), .int (nI k)]) (rest := [.int (bx_sum (fun e => sU z p e) k)]) hC dX3_usesByPupil_14 (cX3_usesOf_c l hi hok (p) (k) (by omega) (by omega)) (cwV 2 hC.2.2.2.2.1 gX3_usesByPupil_X3_usesOf rfl rfl rfl (by decide +kernel) ⟨Nat.le_of_ble_eq_true rfl, Nat.le_of_ble_eq_true rfl⟩) (ok_Sm hok hi 1 (by decide)) (og_So hok hi) rfl rfl rfl rfl (Nat.le_of_ble_eq_true rfl) (Nat.zero_le _) (Nat.zero_le _) ?_
    refine pg_iadd (pc := 17) (v := (bx_sum (fun e => sU z p e) k) + (sU z (p) (k))) hC dX3_usesByPupil_17 rfl ?_
    refine pg_istore_n (pc := 18) (vs' := [(2, .int ((bx_sum (fun e => sU z p e) k) + (sU z (p) (k)))), (0, .ref (x i 1)), (1, .int (nI p)), (3, .int (nI k))]) hC dX3_usesByPupil_18 rfl (by decide) rfl ?_
    refine pg_iinc (pc := 19) (v := nI (k + 1)) (vs' := [(3, .int (nI (k + 1))), (2, .int ((bx_sum (fun e => sU z p e) k) + (sU z (p) (k)))), (0, .ref (x i 1)), (1, .int (nI p))]) hC dX3_usesByPupil_19 3 rfl (nI_add (k) 1) (by decide) rfl ?_
    refine pg_goto (pc := 22) hC 4 dX3_usesByPupil_22 (by decide) ?_
    refine pg_sub (vs' := [(0, .ref (x i 1)), (1, .int (nI p)), (2, .int ((bx_sum (fun e => sU z p e) k) + (sU z (p) (k)))), (3, .int (nI (k + 1)))]) [2, 3, 1, 0] rfl ?_
    exact ih1 (k + 1) (by omega) (by omega)
abbrev rmX3_usesByClass : Room := { frames := 0, cells := 0, slots := 0, locals := 0 }
theorem miX3_usesByClass_X3 : ∀ w ∈ wsX30, w ∈ wsX3_usesByClass := fun _ h => List.mem_cons_of_mem _ (List.mem_append_right _ h)
set_option maxHeartbeats 2000000 in
set_option maxRecDepth 20000 in
theorem cX3_usesByClass_c (l : Launch) {κ : pv_Kt} {L : List Nat} {f : Nat → va_E} {x : Nat → Nat → Nat} {i : Nat} (hi : i < 9) {Z : Nat → Nat → Nat → Int32} {z : Nat → Nat → Int32} (hok : pv_ok κ x L f (va_up Z i z)) (p e : Nat) (hp : p < 5) (he : e < 12) : pv_Mi l κ yX3_usesByClass wsX3_usesByClass rmX3_usesByClass L f [.ref (x i 1), .int (nI p), .int (nI e)] 0 0 (pv_R L f (sUC z p e)) := by
  refine pv_startI (cc := cX3_usesByClass) (maxL := 4) (ret := (some .int)) (by decide) rfl (Nat.le_of_ble_eq_true rfl) (fun A0 P0 E0 S0 M0 a0 B0 T0 C0 hC => ?_)
  refine pg_sub (vs' := [(0, .ref (x i 1)), (1, .int (nI p)), (2, .int (nI e))]) [0, 1, 2] rfl ?_
  refine pg_iconst (pc := 0) (v := 2) hC dX3_usesByClass_0 (by decide) ?_
  refine pg_iload_n (pc := 1) hC dX3_usesByClass_1 1 rfl rfl ?_
  refine pg_imul (pc := 2) (v := nI (2 * p)) hC dX3_usesByClass_2 (pk_mul (2) (p)) ?_
  refine pg_bipush (pc := 3) (v := 12) hC dX3_usesByClass_3 (by decide) ?_
  refine pg_imul (pc := 5) (v := nI ((2 * p) * 12)) hC dX3_usesByClass_5 (pk_mul (2 * p) (12)) ?_
  refine pg_iload_n (pc := 6) hC dX3_usesByClass_6 2 rfl rfl ?_
  refine pg_iadd (pc := 7) (v := nI ((2 * p) * 12 + e)) hC dX3_usesByClass_7 (nI_add ((2 * p) * 12) (e)) ?_
  refine pg_istore_n (pc := 8) (vs' := [(3, .int (nI ((2 * p) * 12 + e))), (0, .ref (x i 1)), (1, .int (nI p)), (2, .int (nI e))]) hC dX3_usesByClass_8 rfl (by decide) rfl ?_
  refine pg_aload_n (pc := 9) hC dX3_usesByClass_9 1 rfl rfl ?_
  refine pgS_geta (pc := 10) hC dX3_usesByClass_10 5 (List.mem_of_getElem? (i := 1) rfl) miX3_usesByClass_X3 hok hi (by decide) (by decide) rfl ?_
  refine pg_iload_n (pc := 13) hC dX3_usesByClass_13 0 rfl rfl ?_
  refine pgS_iald (pc := 14) (v := z 5 ((2 * p) * 12 + e)) hC dX3_usesByClass_14 5 ((2 * p) * 12 + e) hok hi (by decide) (by decide) rfl (show ((2 * p) * 12 + e) < 120 by omega) rfl ?_
  refine pg_aload_n (pc := 15) hC dX3_usesByClass_15 1 rfl rfl ?_
  refine pgS_geta (pc := 16) hC dX3_usesByClass_16 5 (List.mem_of_getElem? (i := 1) rfl) miX3_usesByClass_X3 hok hi (by decide) (by decide) rfl ?_
  refine pg_iload_n (pc := 19) hC dX3_usesByClass_19 0 rfl rfl ?_
  refine pg_bipush (pc := 20) (v := 12) hC dX3_usesByClass_20 (by decide) ?_
  refine pg_iadd (pc := 22) (v := nI ((2 * p) * 12 + e + 12)) hC dX3_usesByClass_22 (nI_add ((2 * p) * 12 + e) (12)) ?_
  refine pgS_iald (pc := 23) (v := z 5 ((2 * p) * 12 + e + 12)) hC dX3_usesByClass_23 5 ((2 * p) * 12 + e + 12) hok hi (by decide) (by decide) rfl (show ((2 * p) * 12 + e + 12) < 120 by omega) rfl ?_
  refine pg_iadd (pc := 24) (v := (z 5 ((2 * p) * 12 + e)) + (z 5 ((2 * p) * 12 + e + 12))) hC dX3_usesByClass_24 rfl ?_
  exact pg_iret (pc := 25) hC dX3_usesByClass_25 rfl ⟨(by first | rfl | simp []), rfl⟩
abbrev rmX3_usesBySchool : Room := { frames := 0, cells := 0, slots := 0, locals := 0 }
theorem miX3_usesBySchool_X3 : ∀ w ∈ wsX30, w ∈ wsX3_usesBySchool := fun _ h => List.mem_cons_of_mem _ (List.mem_append_right _ h)
set_option maxHeartbeats 2000000 in
set_option maxRecDepth 20000 in
theorem cX3_usesBySchool_c (l : Launch) {κ : pv_Kt} {L : List Nat} {f : Nat → va_E} {x : Nat → Nat → Nat} {i : Nat} (hi : i < 9) {Z : Nat → Nat → Nat → Int32} {z : Nat → Nat → Int32} (hok : pv_ok κ x L f (va_up Z i z)) (e : Nat) (he : e < 12) : pv_Mi l κ yX3_usesBySchool wsX3_usesBySchool rmX3_usesBySchool L f [.ref (x i 1), .int (nI e)] 0 0 (pv_R L f (sUS z e)) := by
  refine pv_startI (cc := cX3_usesBySchool) (maxL := 4) (ret := (some .int)) (by decide) rfl (Nat.le_of_ble_eq_true rfl) (fun A0 P0 E0 S0 M0 a0 B0 T0 C0 hC => ?_)
  refine pg_sub (vs' := [(0, .ref (x i 1)), (1, .int (nI e))]) [0, 1] rfl ?_
  refine pg_iconst (pc := 0) (v := 0) hC dX3_usesBySchool_0 (by decide) ?_
  refine pg_istore_n (pc := 1) (vs' := [(2, .int 0), (0, .ref (x i 1)), (1, .int (nI e))]) hC dX3_usesBySchool_1 rfl (by decide) rfl ?_
  refine pg_iload_n (pc := 2) hC dX3_usesBySchool_2 2 rfl rfl ?_
  refine pg_istore_n (pc := 3) (vs' := [(3, .int (nI e)), (2, .int 0), (0, .ref (x i 1)), (1, .int (nI e))]) hC dX3_usesBySchool_3 rfl (by decide) rfl ?_
  refine pg_sub (vs' := [(0, .ref (x i 1)), (1, .int (nI e)), (2, .int 0), (3, .int (nI e))]) [2, 3, 1, 0] rfl ?_
  refine pg_loop (pc := 4) (σ := Nat) (I := fun q => match q with | k => k ≤ 10) (μ := fun q => match q with | k => 10 - k) (VS := fun q => match q with | k => [(0, .ref (x i 1)), (1, .int (nI e)), (2, .int (bx_sum (fun p => z 5 (e + 12 * p)) k)), (3, .int (nI (e + 12 * k)))]) (FF := fun q => match q with | k => f) ?_ (0) (by decide)
  intro q hI ih1
  obtain ⟨k, rfl⟩ : ∃ z, z = q := ⟨_, rfl⟩
  dsimp only at hI ih1 ⊢
  have hI2 := hI
  obtain hk := hI
  refine pg_iload_n (pc := 4) hC dX3_usesBySchool_4 3 rfl rfl ?_
  refine pg_aload_n (pc := 5) hC dX3_usesBySchool_5 0 rfl rfl ?_
  refine pgS_geta (pc := 6) hC dX3_usesBySchool_6 5 (List.mem_of_getElem? (i := 1) rfl) miX3_usesBySchool_X3 hok hi (by decide) (by decide) rfl ?_
  refine pgS_alen (pc := 9) (v := 120) hC dX3_usesBySchool_9 5 hok hi (by decide) (by decide) (by decide) ?_
  refine pg_icmp_geN (pc := 10) hC 28 dX3_usesBySchool_10 (by decide) (e + 12 * k) (120) rfl rfl (by omega) (by omega) (fun c2 => ?_) (fun c2 => ?_)
  · skip
    refine pg_iload_n (pc := 28) hC dX3_usesBySchool_28 2 rfl rfl ?_
    exact pg_iret (pc := 29) hC dX3_usesBySchool_29 rfl ⟨(by rw [show k = 10 by omega]; rfl), rfl⟩
  · skip
    refine pg_iload_n (pc := 13) hC dX3_usesBySchool_13 2 rfl rfl ?_
    refine pg_aload_n (pc := 14) hC dX3_usesBySchool_14 0 rfl rfl ?_
    refine pgS_geta (pc := 15) hC dX3_usesBySchool_15 5 (List.mem_of_getElem? (i := 1) rfl) miX3_usesBySchool_X3 hok hi (by decide) (by decide) rfl ?_
    refine pg_iload_n (pc := 18) hC dX3_usesBySchool_18 3 rfl rfl ?_
    refine pgS_iald (pc := 19) (v := z 5 (e + 12 * k)) hC dX3_usesBySchool_19 5 (e + 12 * k) hok hi (by decide) (by decide) rfl (show (e + 12 * k) < 120 by omega) rfl ?_
    refine pg_iadd (pc := 20) (v := (bx_sum (fun p => z 5 (e + 12 * p)) k) + (z 5 (e + 12 * k))) hC dX3_usesBySchool_20 rfl ?_
    refine pg_istore_n (pc := 21) (vs' := [(2, .int ((bx_sum (fun p => z 5 (e + 12 * p)) k) + (z 5 (e + 12 * k)))), (0, .ref (x i 1)), (1, .int (nI e)), (3, .int (nI (e + 12 * k)))]) hC dX3_usesBySchool_21 rfl (by decide) rfl ?_
    refine pg_iinc (pc := 22) (v := nI (e + 12 * k + 12)) (vs' := [(3, .int (nI (e + 12 * k + 12))), (2, .int ((bx_sum (fun p => z 5 (e + 12 * p)) k) + (z 5 (e + 12 * k)))), (0, .ref (x i 1)), (1, .int (nI e))]) hC dX3_usesBySchool_22 3 rfl (nI_add (e + 12 * k) 12) (by decide) rfl ?_
    refine pg_goto (pc := 25) hC 4 dX3_usesBySchool_25 (by decide) ?_
    refine pg_sub (vs' := [(0, .ref (x i 1)), (1, .int (nI e)), (2, .int ((bx_sum (fun p => z 5 (e + 12 * p)) k) + (z 5 (e + 12 * k)))), (3, .int (nI (e + 12 * k + 12)))]) [2, 3, 1, 0] rfl ?_
    exact ih1 (k + 1) (by omega) (by omega)
abbrev rmX3_usersOf : Room := { frames := 1, cells := 0, slots := 0, locals := 22 }
set_option maxHeartbeats 2000000 in
set_option maxRecDepth 20000 in
theorem cX3_usersOf_c (l : Launch) {κ : pv_Kt} {L : List Nat} {f : Nat → va_E} {x : Nat → Nat → Nat} {i : Nat} (hi : i < 9) {Z : Nat → Nat → Nat → Int32} {z : Nat → Nat → Int32} (hok : pv_ok κ x L f (va_up Z i z)) (e : Nat) (he : e < 12) : pv_Mi l κ yX3_usersOf wsX3_usersOf rmX3_usersOf L f [.ref (x i 1), .int (nI e)] 0 0 (pv_R L f (sUsers z e)) := by
  refine pv_startI (cc := cX3_usersOf) (maxL := 4) (ret := (some .int)) (by decide) rfl (Nat.le_of_ble_eq_true rfl) (fun A0 P0 E0 S0 M0 a0 B0 T0 C0 hC => ?_)
  refine pg_sub (vs' := [(0, .ref (x i 1)), (1, .int (nI e))]) [0, 1] rfl ?_
  refine pg_iconst (pc := 0) (v := 0) hC dX3_usersOf_0 (by decide) ?_
  refine pg_istore_n (pc := 1) (vs' := [(2, .int 0), (0, .ref (x i 1)), (1, .int (nI e))]) hC dX3_usersOf_1 rfl (by decide) rfl ?_
  refine pg_iconst (pc := 2) (v := 0) hC dX3_usersOf_2 (by decide) ?_
  refine pg_istore_n (pc := 3) (vs' := [(3, .int 0), (2, .int 0), (0, .ref (x i 1)), (1, .int (nI e))]) hC dX3_usersOf_3 rfl (by decide) rfl ?_
  refine pg_sub (vs' := [(0, .ref (x i 1)), (1, .int (nI e)), (2, .int 0), (3, .int 0)]) [2, 3, 1, 0] rfl ?_
  refine pg_loop (pc := 4) (σ := Nat) (I := fun q => match q with | k => k ≤ 10) (μ := fun q => match q with | k => 10 - k) (VS := fun q => match q with | k => [(0, .ref (x i 1)), (1, .int (nI e)), (2, .int (sSet (fun p => sU z p e) k)), (3, .int (nI k))]) (FF := fun q => match q with | k => f) ?_ (0) (by decide)
  intro q hI ih1
  obtain ⟨k, rfl⟩ : ∃ z, z = q := ⟨_, rfl⟩
  dsimp only at hI ih1 ⊢
  have hI2 := hI
  obtain hk := hI
  refine pg_iload_n (pc := 4) hC dX3_usersOf_4 3 rfl rfl ?_
  refine pg_bipush (pc := 5) (v := 10) hC dX3_usersOf_5 (by decide) ?_
  refine pg_icmp_geN (pc := 7) hC 31 dX3_usersOf_7 (by decide) (k) (10) rfl rfl (by omega) (by omega) (fun c2 => ?_) (fun c2 => ?_)
  · skip
    refine pg_iload_n (pc := 31) hC dX3_usersOf_31 2 rfl rfl ?_
    exact pg_iret (pc := 32) hC dX3_usersOf_32 rfl ⟨(by rw [show k = 10 by omega]; rfl), rfl⟩
  · skip
    refine pg_aload_n (pc := 10) hC dX3_usersOf_10 0 rfl rfl ?_
    refine pg_iload_n (pc := 11) hC dX3_usersOf_11 3 rfl rfl ?_
    refine pg_iload_n (pc := 12) hC dX3_usersOf_12 1 rfl rfl ?_
    refine pg_callVRi (pc := 13) (As := [.int (nI k), .int (nI e)]) (rest := []) hC dX3_usersOf_13 (cX3_usesOf_c l hi hok (k) (e) (by omega) (by omega)) (cwV 2 hC.2.2.2.2.1 gX3_usersOf_X3_usesOf rfl rfl rfl (by decide +kernel) ⟨Nat.le_of_ble_eq_true rfl, Nat.le_of_ble_eq_true rfl⟩) (ok_Sm hok hi 1 (by decide)) (og_So hok hi) rfl rfl rfl rfl (Nat.le_of_ble_eq_true rfl) (Nat.zero_le _) (Nat.zero_le _) ?_
    refine pg_if_le (pc := 16) hC 25 dX3_usersOf_16 (by decide)  (fun c3 => ?_) (fun c3 => ?_)
    · skip
      refine pg_iinc (pc := 25) (v := nI (k + 1)) (vs' := [(3, .int (nI (k + 1))), (0, .ref (x i 1)), (1, .int (nI e)), (2, .int (sSet (fun p => sU z p e) k))]) hC dX3_usersOf_25 3 rfl (nI_add (k) 1) (by decide) rfl ?_
      refine pg_goto (pc := 28) hC 4 dX3_usersOf_28 (by decide) ?_
      refine pg_sub (vs' := [(0, .ref (x i 1)), (1, .int (nI e)), (2, .int (sSet (fun p => sU z p e) k)), (3, .int (nI (k + 1)))]) [1, 2, 3, 0] rfl ?_
      refine pg_vs (vs' := [(0, .ref (x i 1)), (1, .int (nI e)), (2, .int (sSet (fun p => sU z p e) (k + 1))), (3, .int (nI (k + 1)))]) (by rw [show sSet (fun p => sU z p e) (k + 1) = _ from if_neg (fun q => absurd c3 (Int32.not_le.mpr q))]) ?_
      exact ih1 (k + 1) (by omega) (by omega)
    · skip
      refine pg_iload_n (pc := 19) hC dX3_usersOf_19 2 rfl rfl ?_
      refine pg_iconst (pc := 20) (v := 1) hC dX3_usersOf_20 (by decide) ?_
      refine pg_iload_n (pc := 21) hC dX3_usersOf_21 3 rfl rfl ?_
      refine pg_ishl (pc := 22) (v := 1 <<< ((nI k) &&& 31)) hC dX3_usersOf_22 rfl ?_
      refine pg_ior (pc := 23) (v := (sSet (fun p => sU z p e) k) ||| (1 <<< ((nI k) &&& 31))) hC dX3_usersOf_23 rfl ?_
      refine pg_istore_n (pc := 24) (vs' := [(2, .int ((sSet (fun p => sU z p e) k) ||| (1 <<< ((nI k) &&& 31)))), (0, .ref (x i 1)), (1, .int (nI e)), (3, .int (nI k))]) hC dX3_usersOf_24 rfl (by decide) rfl ?_
      refine pg_iinc (pc := 25) (v := nI (k + 1)) (vs' := [(3, .int (nI (k + 1))), (2, .int ((sSet (fun p => sU z p e) k) ||| (1 <<< ((nI k) &&& 31)))), (0, .ref (x i 1)), (1, .int (nI e))]) hC dX3_usersOf_25 3 rfl (nI_add (k) 1) (by decide) rfl ?_
      refine pg_goto (pc := 28) hC 4 dX3_usersOf_28 (by decide) ?_
      refine pg_sub (vs' := [(0, .ref (x i 1)), (1, .int (nI e)), (2, .int ((sSet (fun p => sU z p e) k) ||| (1 <<< ((nI k) &&& 31)))), (3, .int (nI (k + 1)))]) [2, 3, 1, 0] rfl ?_
      refine pg_vs (vs' := [(0, .ref (x i 1)), (1, .int (nI e)), (2, .int (sSet (fun p => sU z p e) (k + 1))), (3, .int (nI (k + 1)))]) (by rw [show sSet (fun p => sU z p e) (k + 1) = _ from if_pos (Int32.not_le.mp c3)]; try rfl) ?_
      exact ih1 (k + 1) (by omega) (by omega)
abbrev rmX3_noveltyFor : Room := { frames := 1, cells := 0, slots := 0, locals := 23 }
theorem miX3_noveltyFor_X3 : ∀ w ∈ wsX30, w ∈ wsX3_noveltyFor := fun _ h => List.mem_cons_of_mem _ (List.mem_append_right _ h)
set_option maxHeartbeats 2000000 in
set_option maxRecDepth 20000 in
theorem cX3_noveltyFor_c (l : Launch) {κ : pv_Kt} {L : List Nat} {f : Nat → va_E} {x : Nat → Nat → Nat} {i : Nat} (hi : i < 9) {Z : Nat → Nat → Nat → Int32} {z : Nat → Nat → Int32} (hok : pv_ok κ x L f (va_up Z i z)) (p e : Nat) (hp : p < 10) (he : e < 12) : pv_Mi l κ yX3_noveltyFor wsX3_noveltyFor rmX3_noveltyFor L f [.ref (x i 1), .int (nI p), .int (nI e)] 0 0 (pv_R L f (sNov z p e)) := by
  refine pv_startI (cc := cX3_noveltyFor) (maxL := 4) (ret := (some .int)) (by decide) rfl (Nat.le_of_ble_eq_true rfl) (fun A0 P0 E0 S0 M0 a0 B0 T0 C0 hC => ?_)
  refine pg_sub (vs' := [(0, .ref (x i 1)), (1, .int (nI p)), (2, .int (nI e))]) [0, 1, 2] rfl ?_
  refine pg_aload_n (pc := 0) hC dX3_noveltyFor_0 0 rfl rfl ?_
  refine pgS_geta (pc := 1) hC dX3_noveltyFor_1 0 (List.mem_of_getElem? (i := 1) rfl) miX3_noveltyFor_X3 hok hi (by decide) (by decide) rfl ?_
  refine pg_iconst (pc := 4) (v := 1) hC dX3_noveltyFor_4 (by decide) ?_
  refine pgS_iald (pc := 5) (v := z 0 1) hC dX3_noveltyFor_5 0 (1) hok hi (by decide) (by decide) rfl (show 1 < 5 by omega) rfl ?_
  refine pg_aload_n (pc := 6) hC dX3_noveltyFor_6 0 rfl rfl ?_
  refine pg_iload_n (pc := 7) hC dX3_noveltyFor_7 2 rfl rfl ?_
  refine pg_callVRi (pc := 8) (As := [.int (nI e)]) (rest := [.int (z 0 1)]) hC dX3_noveltyFor_8 (cX3_usesBySchool_c l hi hok (e) (by omega)) (cwV 1 hC.2.2.2.2.1 gX3_noveltyFor_X3_usesBySchool rfl rfl rfl (by decide +kernel) ⟨Nat.le_of_ble_eq_true rfl, Nat.le_of_ble_eq_true rfl⟩) (ok_Sm hok hi 1 (by decide)) (og_So hok hi) rfl rfl rfl rfl (Nat.le_of_ble_eq_true rfl) (Nat.zero_le _) (Nat.zero_le _) ?_
  refine pg_aload_n (pc := 11) hC dX3_noveltyFor_11 0 rfl rfl ?_
  refine pg_iload_n (pc := 12) hC dX3_noveltyFor_12 1 rfl rfl ?_
  refine pg_callSNRi (pc := 13) (As := [.int (nI p)]) (rest := [.ref (x i 1), .int (sUS z (e)), .int (z 0 1)]) hC dX3_noveltyFor_13 (cX4_classOf_c l (p) (by omega)) ⟨va_cnB 1 hC.2.2.2.2.1 gX3_noveltyFor_X4_classOf_n73 rfl rfl rfl hC.2.2.2.2.2.2.2.2.2.1.2.1.2.2.2.2.1 (hC.2.2.2.2.1 _ (List.mem_of_getElem? (i := 13) rfl)) (by decide +kernel) ⟨Nat.le_of_ble_eq_true rfl, Nat.le_of_ble_eq_true rfl⟩, hC.2.2.2.2.1 _ (List.mem_of_getElem? (i := 12) rfl), trivial⟩ rfl rfl (Nat.le_of_ble_eq_true rfl) (Nat.zero_le _) (Nat.zero_le _) ?_
  refine pg_iload_n (pc := 16) hC dX3_noveltyFor_16 2 rfl rfl ?_
  refine pg_callVRi (pc := 17) (As := [.int (nI (p / 2)), .int (nI e)]) (rest := [.int (sUS z (e)), .int (z 0 1)]) hC dX3_noveltyFor_17 (cX3_usesByClass_c l hi hok (p / 2) (e) (by omega) (by omega)) (cwV 2 hC.2.2.2.2.1 gX3_noveltyFor_X3_usesByClass rfl rfl rfl (by decide +kernel) ⟨Nat.le_of_ble_eq_true rfl, Nat.le_of_ble_eq_true rfl⟩) (ok_Sm hok hi 1 (by decide)) (og_So hok hi) rfl rfl rfl rfl (Nat.le_of_ble_eq_true rfl) (Nat.zero_le _) (Nat.zero_le _) ?_
  refine pg_iadd (pc := 20) (v := (sUS z (e)) + (sUC z (p / 2) (e))) hC dX3_noveltyFor_20 rfl ?_
  refine pg_imul (pc := 21) (v := (z 0 1) * ((sUS z (e)) + (sUC z (p / 2) (e)))) hC dX3_noveltyFor_21 rfl ?_
  refine pg_istore_n (pc := 22) (vs' := [(3, .int ((z 0 1) * ((sUS z (e)) + (sUC z (p / 2) (e))))), (0, .ref (x i 1)), (1, .int (nI p)), (2, .int (nI e))]) hC dX3_noveltyFor_22 rfl (by decide) rfl ?_
  refine pg_iconst (pc := 23) (v := 0) hC dX3_noveltyFor_23 (by decide) ?_
  refine pg_bipush (pc := 24) (v := 100) hC dX3_noveltyFor_24 (by decide) ?_
  refine pg_iload_n (pc := 26) hC dX3_noveltyFor_26 0 rfl rfl ?_
  refine pg_isub (pc := 27) (v := 100 - ((z 0 1) * ((sUS z (e)) + (sUC z (p / 2) (e))))) hC dX3_noveltyFor_27 rfl ?_
  refine pg_mmax (pc := 28) hC dX3_noveltyFor_28 (List.mem_of_getElem? (i := 2) rfl) (List.mem_of_getElem? (i := 3) rfl) (List.mem_of_getElem? (i := 4) rfl) (List.mem_of_getElem? (i := 5) rfl) (Nat.le_of_ble_eq_true rfl) (Nat.le_of_ble_eq_true rfl) (Nat.zero_le _) (Nat.zero_le _) ?_
  exact pg_iret (pc := 31) hC dX3_noveltyFor_31 rfl ⟨(by first | rfl | simp []), rfl⟩
abbrev rmX3_standingOf : Room := { frames := 1, cells := 0, slots := 0, locals := 21 }
theorem miX3_standingOf_X3 : ∀ w ∈ wsX30, w ∈ wsX3_standingOf := fun _ h => List.mem_cons_of_mem _ (List.mem_append_right _ h)
set_option maxHeartbeats 2000000 in
set_option maxRecDepth 20000 in
theorem cX3_standingOf_c (l : Launch) {κ : pv_Kt} {L : List Nat} {f : Nat → va_E} {x : Nat → Nat → Nat} {i : Nat} (hi : i < 9) {Z : Nat → Nat → Nat → Int32} {z : Nat → Nat → Int32} (hok : pv_ok κ x L f (va_up Z i z)) (w p : Nat) (hw : w < 10) (hp : p < 10) : pv_Mi l κ yX3_standingOf wsX3_standingOf rmX3_standingOf L f [.ref (x i 1), .int (nI w), .int (nI p)] 0 0 (pv_R L f (sStand z w p)) := by
  refine pv_startI (cc := cX3_standingOf) (maxL := 3) (ret := (some .int)) (by decide) rfl (Nat.le_of_ble_eq_true rfl) (fun A0 P0 E0 S0 M0 a0 B0 T0 C0 hC => ?_)
  refine pg_sub (vs' := [(0, .ref (x i 1)), (1, .int (nI w)), (2, .int (nI p))]) [0, 1, 2] rfl ?_
  refine pg_iload_n (pc := 0) hC dX3_standingOf_0 1 rfl rfl ?_
  refine pg_callSNRi (pc := 1) (As := [.int (nI w)]) (rest := []) hC dX3_standingOf_1 (cX4_classOf_c l (w) (by omega)) ⟨va_cnB 1 hC.2.2.2.2.1 gX3_standingOf_X4_classOf_n73 rfl rfl rfl hC.2.2.2.2.2.2.2.2.2.1.2.1.2.2.2.2.1 (hC.2.2.2.2.1 _ (List.mem_of_getElem? (i := 7) rfl)) (by decide +kernel) ⟨Nat.le_of_ble_eq_true rfl, Nat.le_of_ble_eq_true rfl⟩, hC.2.2.2.2.1 _ (List.mem_of_getElem? (i := 6) rfl), trivial⟩ rfl rfl (Nat.le_of_ble_eq_true rfl) (Nat.zero_le _) (Nat.zero_le _) ?_
  refine pg_iload_n (pc := 4) hC dX3_standingOf_4 2 rfl rfl ?_
  refine pg_callSNRi (pc := 5) (As := [.int (nI p)]) (rest := [.int (nI (w / 2))]) hC dX3_standingOf_5 (cX4_classOf_c l (p) (by omega)) ⟨va_cnB 1 hC.2.2.2.2.1 gX3_standingOf_X4_classOf_n73 rfl rfl rfl hC.2.2.2.2.2.2.2.2.2.1.2.1.2.2.2.2.1 (hC.2.2.2.2.1 _ (List.mem_of_getElem? (i := 7) rfl)) (by decide +kernel) ⟨Nat.le_of_ble_eq_true rfl, Nat.le_of_ble_eq_true rfl⟩, hC.2.2.2.2.1 _ (List.mem_of_getElem? (i := 6) rfl), trivial⟩ rfl rfl (Nat.le_of_ble_eq_true rfl) (Nat.zero_le _) (Nat.zero_le _) ?_
  refine pg_icmp_neN (pc := 8) hC 24 dX3_standingOf_8 (by decide) (w / 2) (p / 2) rfl rfl (by omega) (by omega) (fun c1 => ?_) (fun c1 => ?_)
  · skip
    refine pg_aload_n (pc := 24) hC dX3_standingOf_24 0 rfl rfl ?_
    refine pgS_geta (pc := 25) hC dX3_standingOf_25 6 (List.mem_of_getElem? (i := 1) rfl) miX3_standingOf_X3 hok hi (by decide) (by decide) rfl ?_
    refine pg_iload_n (pc := 28) hC dX3_standingOf_28 1 rfl rfl ?_
    refine pgS_iald (pc := 29) (v := z 6 w) hC dX3_standingOf_29 6 (w) hok hi (by decide) (by decide) rfl (show w < 10 by omega) rfl ?_
    exact pg_iret (pc := 30) hC dX3_standingOf_30 rfl ⟨(by unfold sStand; rw [if_neg c1]; try rfl), rfl⟩
  · skip
    refine pg_iconst (pc := 11) (v := 0) hC dX3_standingOf_11 (by decide) ?_
    refine pg_aload_n (pc := 12) hC dX3_standingOf_12 0 rfl rfl ?_
    refine pgS_geta (pc := 13) hC dX3_standingOf_13 6 (List.mem_of_getElem? (i := 1) rfl) miX3_standingOf_X3 hok hi (by decide) (by decide) rfl ?_
    refine pg_iload_n (pc := 16) hC dX3_standingOf_16 1 rfl rfl ?_
    refine pgS_iald (pc := 17) (v := z 6 w) hC dX3_standingOf_17 6 (w) hok hi (by decide) (by decide) rfl (show w < 10 by omega) rfl ?_
    refine pg_iconst (pc := 18) (v := 2) hC dX3_standingOf_18 (by decide) ?_
    refine pg_isub (pc := 19) (v := (z 6 w) - 2) hC dX3_standingOf_19 rfl ?_
    refine pg_mmax (pc := 20) hC dX3_standingOf_20 (List.mem_of_getElem? (i := 2) rfl) (List.mem_of_getElem? (i := 3) rfl) (List.mem_of_getElem? (i := 4) rfl) (List.mem_of_getElem? (i := 5) rfl) (Nat.le_of_ble_eq_true rfl) (Nat.le_of_ble_eq_true rfl) (Nat.zero_le _) (Nat.zero_le _) ?_
    exact pg_iret (pc := 23) hC dX3_standingOf_23 rfl ⟨(by unfold sStand; rw [if_pos c1]; try rfl), rfl⟩
abbrev rmX3_weightOf : Room := { frames := 2, cells := 0, slots := 0, locals := 46 }
theorem miX3_weightOf_X3 : ∀ w ∈ wsX30, w ∈ wsX3_weightOf := fun _ h => List.mem_cons_of_mem _ (List.mem_append_right _ h)
set_option maxHeartbeats 2000000 in
set_option maxRecDepth 20000 in
theorem cX3_weightOf_c (l : Launch) {κ : pv_Kt} {L : List Nat} {f : Nat → va_E} {x : Nat → Nat → Nat} {i : Nat} (hi : i < 9) {Z : Nat → Nat → Nat → Int32} {z : Nat → Nat → Int32} (hok : pv_ok κ x L f (va_up Z i z)) (p e : Nat) (hp : p < 10) (he : e < 12) (wt : Int32) (hw : wt = -6 ∨ ∃ w : Nat, w < 10 ∧ wt = nI w) (mn : Int32) : pv_Mi l κ yX3_weightOf wsX3_weightOf rmX3_weightOf L f [.ref (x i 1), .int (nI p), .int (nI e), .int wt, .int mn] 0 0 (pv_R L f (sWt z p e wt mn)) := by
  refine pv_startI (cc := cX3_weightOf) (maxL := 6) (ret := (some .int)) (by decide) rfl (Nat.le_of_ble_eq_true rfl) (fun A0 P0 E0 S0 M0 a0 B0 T0 C0 hC => ?_)
  refine pg_sub (vs' := [(0, .ref (x i 1)), (1, .int (nI p)), (2, .int (nI e)), (3, .int wt), (4, .int mn)]) [0, 1, 2, 3, 4] rfl ?_
  refine pg_aload_n (pc := 0) hC dX3_weightOf_0 0 rfl rfl ?_
  refine pgS_geta (pc := 1) hC dX3_weightOf_1 3 (List.mem_of_getElem? (i := 1) rfl) miX3_weightOf_X3 hok hi (by decide) (by decide) rfl ?_
  refine pg_iload_n (pc := 4) hC dX3_weightOf_4 2 rfl rfl ?_
  refine pgS_iald (pc := 5) (v := z 3 e) hC dX3_weightOf_5 3 (e) hok hi (by decide) (by decide) rfl (show e < 12 by omega) rfl ?_
  refine pg_aload_n (pc := 6) hC dX3_weightOf_6 0 rfl rfl ?_
  refine pg_iload_n (pc := 7) hC dX3_weightOf_7 1 rfl rfl ?_
  refine pg_iload_n (pc := 8) hC dX3_weightOf_8 2 rfl rfl ?_
  refine pg_callVRi (pc := 9) (As := [.int (nI p), .int (nI e)]) (rest := [.int (z 3 e)]) hC dX3_weightOf_9 (cX3_noveltyFor_c l hi hok (p) (e) (by omega) (by omega)) (cwV 2 hC.2.2.2.2.1 gX3_weightOf_X3_noveltyFor rfl rfl rfl (by decide +kernel) ⟨Nat.le_of_ble_eq_true rfl, Nat.le_of_ble_eq_true rfl⟩) (ok_Sm hok hi 1 (by decide)) (og_So hok hi) rfl rfl rfl rfl (Nat.le_of_ble_eq_true rfl) (Nat.zero_le _) (Nat.zero_le _) ?_
  refine pg_imul (pc := 12) (v := (z 3 e) * (sNov z (p) (e))) hC dX3_weightOf_12 rfl ?_
  refine pg_bipush (pc := 13) (v := 100) hC dX3_weightOf_13 (by decide) ?_
  refine pg_idiv (pc := 15) (v := ((z 3 e) * (sNov z (p) (e))) / 100) hC dX3_weightOf_15 (by decide) rfl ?_
  refine pg_istore (pc := 16) (vs' := [(5, .int (((z 3 e) * (sNov z (p) (e))) / 100)), (0, .ref (x i 1)), (1, .int (nI p)), (2, .int (nI e)), (3, .int wt), (4, .int mn)]) hC dX3_weightOf_16 (by decide) rfl ?_
  refine pg_iload (pc := 18) hC dX3_weightOf_18 0 rfl ?_
  refine pg_aload_n (pc := 20) hC dX3_weightOf_20 1 rfl rfl ?_
  refine pgS_geta (pc := 21) hC dX3_weightOf_21 0 (List.mem_of_getElem? (i := 2) rfl) miX3_weightOf_X3 hok hi (by decide) (by decide) rfl ?_
  refine pg_iconst (pc := 24) (v := 4) hC dX3_weightOf_24 (by decide) ?_
  refine pgS_iald (pc := 25) (v := z 0 4) hC dX3_weightOf_25 0 (4) hok hi (by decide) (by decide) rfl (show 4 < 5 by omega) rfl ?_
  refine pg_aload_n (pc := 26) hC dX3_weightOf_26 1 rfl rfl ?_
  refine pgS_geta (pc := 27) hC dX3_weightOf_27 12 (List.mem_of_getElem? (i := 3) rfl) miX3_weightOf_X3 hok hi (by decide) (by decide) rfl ?_
  refine pg_iload_n (pc := 30) hC dX3_weightOf_30 2 rfl rfl ?_
  refine pg_callSNRi (pc := 31) (As := [.int (nI p)]) (rest := [.ref (x i 12), .int (z 0 4), .int (((z 3 e) * (sNov z (p) (e))) / 100)]) hC dX3_weightOf_31 (cX4_classOf_c l (p) (by omega)) ⟨va_cnB 1 hC.2.2.2.2.1 gX3_weightOf_X4_classOf_n73 rfl rfl rfl hC.2.2.2.2.2.2.2.2.2.1.2.1.2.2.2.2.1 (hC.2.2.2.2.1 _ (List.mem_of_getElem? (i := 19) rfl)) (by decide +kernel) ⟨Nat.le_of_ble_eq_true rfl, Nat.le_of_ble_eq_true rfl⟩, hC.2.2.2.2.1 _ (List.mem_of_getElem? (i := 18) rfl), trivial⟩ rfl rfl (Nat.le_of_ble_eq_true rfl) (Nat.zero_le _) (Nat.zero_le _) ?_
  refine pgS_iald (pc := 34) (v := z 12 (p / 2)) hC dX3_weightOf_34 12 (p / 2) hok hi (by decide) (by decide) rfl (show (p / 2) < 5 by omega) rfl ?_
  refine pg_imul (pc := 35) (v := (z 0 4) * (z 12 (p / 2))) hC dX3_weightOf_35 rfl ?_
  refine pg_isub (pc := 36) (v := (((z 3 e) * (sNov z (p) (e))) / 100) - ((z 0 4) * (z 12 (p / 2)))) hC dX3_weightOf_36 rfl ?_
  refine pg_istore (pc := 37) (vs' := [(5, .int ((((z 3 e) * (sNov z (p) (e))) / 100) - ((z 0 4) * (z 12 (p / 2))))), (0, .ref (x i 1)), (1, .int (nI p)), (2, .int (nI e)), (3, .int wt), (4, .int mn)]) hC dX3_weightOf_37 (by decide) rfl ?_
  refine pg_iload (pc := 39) hC dX3_weightOf_39 0 rfl ?_
  refine pg_iload (pc := 41) hC dX3_weightOf_41 5 rfl ?_
  refine pg_bipush (pc := 43) (v := 10) hC dX3_weightOf_43 (by decide) ?_
  refine pg_idiv (pc := 45) (v := mn / 10) hC dX3_weightOf_45 (by decide) rfl ?_
  refine pg_isub (pc := 46) (v := ((((z 3 e) * (sNov z (p) (e))) / 100) - ((z 0 4) * (z 12 (p / 2)))) - (mn / 10)) hC dX3_weightOf_46 rfl ?_
  refine pg_istore (pc := 47) (vs' := [(5, .int (((((z 3 e) * (sNov z (p) (e))) / 100) - ((z 0 4) * (z 12 (p / 2)))) - (mn / 10))), (0, .ref (x i 1)), (1, .int (nI p)), (2, .int (nI e)), (3, .int wt), (4, .int mn)]) hC dX3_weightOf_47 (by decide) rfl ?_
  refine pg_iload_n (pc := 49) hC dX3_weightOf_49 4 rfl rfl ?_
  refine pg_bipush (pc := 50) (v := (-6)) hC dX3_weightOf_50 (by decide) ?_
  refine pg_icmp_eq (pc := 52) hC 66 dX3_weightOf_52 (by decide)  (fun c1 => ?_) (fun c1 => ?_)
  · skip
    refine pg_iload (pc := 66) hC dX3_weightOf_66 0 rfl ?_
    exact pg_iret (pc := 68) hC dX3_weightOf_68 rfl ⟨(by unfold sWt; rw [if_pos c1]; try rfl), rfl⟩
  · skip
    obtain ⟨w, hw10, rfl⟩ := hw.resolve_left c1
    refine pg_iload (pc := 55) hC dX3_weightOf_55 0 rfl ?_
    refine pg_aload_n (pc := 57) hC dX3_weightOf_57 1 rfl rfl ?_
    refine pg_iload_n (pc := 58) hC dX3_weightOf_58 4 rfl rfl ?_
    refine pg_iload_n (pc := 59) hC dX3_weightOf_59 2 rfl rfl ?_
    refine pg_callVRi (pc := 60) (As := [.int (nI w), .int (nI p)]) (rest := [.int (((((z 3 e) * (sNov z (p) (e))) / 100) - ((z 0 4) * (z 12 (p / 2)))) - (mn / 10))]) hC dX3_weightOf_60 (cX3_standingOf_c l hi hok (w) (p) (by omega) (by omega)) (cwV 2 hC.2.2.2.2.1 gX3_weightOf_X3_standingOf rfl rfl rfl (by decide +kernel) ⟨Nat.le_of_ble_eq_true rfl, Nat.le_of_ble_eq_true rfl⟩) (ok_Sm hok hi 1 (by decide)) (og_So hok hi) rfl rfl rfl rfl (Nat.le_of_ble_eq_true rfl) (Nat.zero_le _) (Nat.zero_le _) ?_
    refine pg_iadd (pc := 63) (v := (((((z 3 e) * (sNov z (p) (e))) / 100) - ((z 0 4) * (z 12 (p / 2)))) - (mn / 10)) + (sStand z (w) (p))) hC dX3_weightOf_63 rfl ?_
    refine pg_istore (pc := 64) (vs' := [(5, .int ((((((z 3 e) * (sNov z (p) (e))) / 100) - ((z 0 4) * (z 12 (p / 2)))) - (mn / 10)) + (sStand z (w) (p)))), (0, .ref (x i 1)), (1, .int (nI p)), (2, .int (nI e)), (3, .int (nI w)), (4, .int mn)]) hC dX3_weightOf_64 (by decide) rfl ?_
    refine pg_iload (pc := 66) hC dX3_weightOf_66 0 rfl ?_
    exact pg_iret (pc := 68) hC dX3_weightOf_68 rfl ⟨(by unfold sWt; rw [if_neg c1, cl_nI (by omega)]; try rfl), rfl⟩
abbrev rmX3_reasonAgainst : Room := { frames := 3, cells := 0, slots := 0, locals := 71 }
theorem miX3_reasonAgainst_X3 : ∀ w ∈ wsX30, w ∈ wsX3_reasonAgainst := fun _ h => List.mem_cons_of_mem _ (List.mem_append_right _ h)
set_option maxHeartbeats 2000000 in
set_option maxRecDepth 20000 in
theorem cX3_reasonAgainst_c (l : Launch) {κ : pv_Kt} {L : List Nat} {f : Nat → va_E} {x : Nat → Nat → Nat} {i : Nat} (hi : i < 9) {Z : Nat → Nat → Nat → Int32} {z : Nat → Nat → Int32} (hok : pv_ok κ x L f (va_up Z i z)) (p e : Nat) (hp : p < 10) (he : e < 12) (wt : Int32) (hw : wt = -6 ∨ ∃ w : Nat, w < 10 ∧ wt = nI w) (mn : Int32) : pv_Mi l κ yX3_reasonAgainst wsX3_reasonAgainst rmX3_reasonAgainst L f [.ref (x i 1), .int (nI p), .int (nI e), .int wt, .int mn] 0 0 (pv_R L f (sReason z p e wt mn)) := by
  refine pv_startI (cc := cX3_reasonAgainst) (maxL := 5) (ret := (some .int)) (by decide) rfl (Nat.le_of_ble_eq_true rfl) (fun A0 P0 E0 S0 M0 a0 B0 T0 C0 hC => ?_)
  refine pg_sub (vs' := [(0, .ref (x i 1)), (1, .int (nI p)), (2, .int (nI e)), (3, .int wt), (4, .int mn)]) [0, 1, 2, 3, 4] rfl ?_
  refine pg_aload_n (pc := 0) hC dX3_reasonAgainst_0 0 rfl rfl ?_
  refine pg_iload_n (pc := 1) hC dX3_reasonAgainst_1 1 rfl rfl ?_
  refine pg_iload_n (pc := 2) hC dX3_reasonAgainst_2 2 rfl rfl ?_
  refine pg_callVRi (pc := 3) (As := [.int (nI p), .int (nI e)]) (rest := []) hC dX3_reasonAgainst_3 (cX3_usesOf_c l hi hok (p) (e) (by omega) (by omega)) (cwV 2 hC.2.2.2.2.1 gX3_reasonAgainst_X3_usesOf rfl rfl rfl (by decide +kernel) ⟨Nat.le_of_ble_eq_true rfl, Nat.le_of_ble_eq_true rfl⟩) (ok_Sm hok hi 1 (by decide)) (og_So hok hi) rfl rfl rfl rfl (Nat.le_of_ble_eq_true rfl) (Nat.zero_le _) (Nat.zero_le _) ?_
  refine pg_aload_n (pc := 6) hC dX3_reasonAgainst_6 0 rfl rfl ?_
  refine pgS_geta (pc := 7) hC dX3_reasonAgainst_7 0 (List.mem_of_getElem? (i := 1) rfl) miX3_reasonAgainst_X3 hok hi (by decide) (by decide) rfl ?_
  refine pg_iconst (pc := 10) (v := 2) hC dX3_reasonAgainst_10 (by decide) ?_
  refine pgS_iald (pc := 11) (v := z 0 2) hC dX3_reasonAgainst_11 0 (2) hok hi (by decide) (by decide) rfl (show 2 < 5 by omega) rfl ?_
  refine pg_icmp_lt (pc := 12) hC 17 dX3_reasonAgainst_12 (by decide)  (fun c1 => ?_) (fun c1 => ?_)
  · skip
    refine pg_aload_n (pc := 17) hC dX3_reasonAgainst_17 0 rfl rfl ?_
    refine pgS_geta (pc := 18) hC dX3_reasonAgainst_18 11 (List.mem_of_getElem? (i := 2) rfl) miX3_reasonAgainst_X3 hok hi (by decide) (by decide) rfl ?_
    refine pg_iload_n (pc := 21) hC dX3_reasonAgainst_21 1 rfl rfl ?_
    refine pgS_iald (pc := 22) (v := z 11 p) hC dX3_reasonAgainst_22 11 (p) hok hi (by decide) (by decide) rfl (show p < 10 by omega) rfl ?_
    refine pg_aload_n (pc := 23) hC dX3_reasonAgainst_23 0 rfl rfl ?_
    refine pgS_geta (pc := 24) hC dX3_reasonAgainst_24 2 (List.mem_of_getElem? (i := 3) rfl) miX3_reasonAgainst_X3 hok hi (by decide) (by decide) rfl ?_
    refine pg_iload_n (pc := 27) hC dX3_reasonAgainst_27 2 rfl rfl ?_
    refine pgS_iald (pc := 28) (v := z 2 e) hC dX3_reasonAgainst_28 2 (e) hok hi (by decide) (by decide) rfl (show e < 12 by omega) rfl ?_
    refine pg_icmp_ne (pc := 29) hC 34 dX3_reasonAgainst_29 (by decide)  (fun c2 => ?_) (fun c2 => ?_)
    · skip
      refine pg_iload_n (pc := 34) hC dX3_reasonAgainst_34 3 rfl rfl ?_
      refine pg_bipush (pc := 35) (v := (-6)) hC dX3_reasonAgainst_35 (by decide) ?_
      refine pg_icmp_eq (pc := 37) hC 51 dX3_reasonAgainst_37 (by decide)  (fun c3 => ?_) (fun c3 => ?_)
      · skip
        subst c3
        refine pg_aload_n (pc := 51) hC dX3_reasonAgainst_51 0 rfl rfl ?_
        refine pg_iload_n (pc := 52) hC dX3_reasonAgainst_52 1 rfl rfl ?_
        refine pg_iload_n (pc := 53) hC dX3_reasonAgainst_53 2 rfl rfl ?_
        refine pg_iload_n (pc := 54) hC dX3_reasonAgainst_54 3 rfl rfl ?_
        refine pg_iload (pc := 55) hC dX3_reasonAgainst_55 4 rfl ?_
        refine pg_callVRi (pc := 57) (As := [.int (nI p), .int (nI e), .int (-6), .int mn]) (rest := []) hC dX3_reasonAgainst_57 (cX3_weightOf_c l hi hok (p) (e) (by omega) (by omega) (-6) (Or.inl rfl) mn) (cwV 4 hC.2.2.2.2.1 gX3_reasonAgainst_X3_weightOf rfl rfl rfl (by decide +kernel) ⟨Nat.le_of_ble_eq_true rfl, Nat.le_of_ble_eq_true rfl⟩) (ok_Sm hok hi 1 (by decide)) (og_So hok hi) rfl rfl rfl rfl (Nat.le_of_ble_eq_true rfl) (Nat.zero_le _) (Nat.zero_le _) ?_
        refine pg_aload_n (pc := 60) hC dX3_reasonAgainst_60 0 rfl rfl ?_
        refine pgS_geta (pc := 61) hC dX3_reasonAgainst_61 0 (List.mem_of_getElem? (i := 1) rfl) miX3_reasonAgainst_X3 hok hi (by decide) (by decide) rfl ?_
        refine pg_iconst (pc := 64) (v := 0) hC dX3_reasonAgainst_64 (by decide) ?_
        refine pgS_iald (pc := 65) (v := z 0 0) hC dX3_reasonAgainst_65 0 (0) hok hi (by decide) (by decide) rfl (show 0 < 5 by omega) rfl ?_
        refine pg_icmp_ge (pc := 66) hC 71 dX3_reasonAgainst_66 (by decide)  (fun c4 => ?_) (fun c4 => ?_)
        · skip
          refine pg_iconst (pc := 71) (v := 0) hC dX3_reasonAgainst_71 (by decide) ?_
          exact pg_iret (pc := 72) hC dX3_reasonAgainst_72 rfl ⟨(by simp [sReason, c1, c2, c4]), rfl⟩
        · skip
          refine pg_iconst (pc := 69) (v := 4) hC dX3_reasonAgainst_69 (by decide) ?_
          exact pg_iret (pc := 70) hC dX3_reasonAgainst_70 rfl ⟨(by simp [sReason, c1, c2, c4]), rfl⟩
      · skip
        obtain ⟨w, hw10, rfl⟩ := hw.resolve_left c3
        refine pg_aload_n (pc := 40) hC dX3_reasonAgainst_40 0 rfl rfl ?_
        refine pgS_geta (pc := 41) hC dX3_reasonAgainst_41 6 (List.mem_of_getElem? (i := 4) rfl) miX3_reasonAgainst_X3 hok hi (by decide) (by decide) rfl ?_
        refine pg_iload_n (pc := 44) hC dX3_reasonAgainst_44 3 rfl rfl ?_
        refine pgS_iald (pc := 45) (v := z 6 w) hC dX3_reasonAgainst_45 6 (w) hok hi (by decide) (by decide) rfl (show w < 10 by omega) rfl ?_
        refine pg_if_ne (pc := 46) hC 51 dX3_reasonAgainst_46 (by decide)  (fun c5 => ?_) (fun c5 => ?_)
        · skip
          refine pg_aload_n (pc := 51) hC dX3_reasonAgainst_51 0 rfl rfl ?_
          refine pg_iload_n (pc := 52) hC dX3_reasonAgainst_52 1 rfl rfl ?_
          refine pg_iload_n (pc := 53) hC dX3_reasonAgainst_53 2 rfl rfl ?_
          refine pg_iload_n (pc := 54) hC dX3_reasonAgainst_54 3 rfl rfl ?_
          refine pg_iload (pc := 55) hC dX3_reasonAgainst_55 4 rfl ?_
          refine pg_callVRi (pc := 57) (As := [.int (nI p), .int (nI e), .int (nI w), .int mn]) (rest := []) hC dX3_reasonAgainst_57 (cX3_weightOf_c l hi hok (p) (e) (by omega) (by omega) (nI w) (Or.inr ⟨w, by omega, rfl⟩) mn) (cwV 4 hC.2.2.2.2.1 gX3_reasonAgainst_X3_weightOf rfl rfl rfl (by decide +kernel) ⟨Nat.le_of_ble_eq_true rfl, Nat.le_of_ble_eq_true rfl⟩) (ok_Sm hok hi 1 (by decide)) (og_So hok hi) rfl rfl rfl rfl (Nat.le_of_ble_eq_true rfl) (Nat.zero_le _) (Nat.zero_le _) ?_
          refine pg_aload_n (pc := 60) hC dX3_reasonAgainst_60 0 rfl rfl ?_
          refine pgS_geta (pc := 61) hC dX3_reasonAgainst_61 0 (List.mem_of_getElem? (i := 1) rfl) miX3_reasonAgainst_X3 hok hi (by decide) (by decide) rfl ?_
          refine pg_iconst (pc := 64) (v := 0) hC dX3_reasonAgainst_64 (by decide) ?_
          refine pgS_iald (pc := 65) (v := z 0 0) hC dX3_reasonAgainst_65 0 (0) hok hi (by decide) (by decide) rfl (show 0 < 5 by omega) rfl ?_
          refine pg_icmp_ge (pc := 66) hC 71 dX3_reasonAgainst_66 (by decide)  (fun c6 => ?_) (fun c6 => ?_)
          · skip
            refine pg_iconst (pc := 71) (v := 0) hC dX3_reasonAgainst_71 (by decide) ?_
            exact pg_iret (pc := 72) hC dX3_reasonAgainst_72 rfl ⟨(by simp [sReason, cl_nI (show w < 2 ^ 31 by omega), c1, c2, c3, c5, c6]), rfl⟩
          · skip
            refine pg_iconst (pc := 69) (v := 4) hC dX3_reasonAgainst_69 (by decide) ?_
            exact pg_iret (pc := 70) hC dX3_reasonAgainst_70 rfl ⟨(by simp [sReason, cl_nI (show w < 2 ^ 31 by omega), c1, c2, c3, c5, c6]), rfl⟩
        · skip
          refine pg_iconst (pc := 49) (v := 3) hC dX3_reasonAgainst_49 (by decide) ?_
          exact pg_iret (pc := 50) hC dX3_reasonAgainst_50 rfl ⟨(by simp [sReason, cl_nI (show w < 2 ^ 31 by omega), c1, c2, c3, c5]), rfl⟩
    · skip
      refine pg_iconst (pc := 32) (v := 2) hC dX3_reasonAgainst_32 (by decide) ?_
      exact pg_iret (pc := 33) hC dX3_reasonAgainst_33 rfl ⟨(by simp [sReason, c1, c2]), rfl⟩
  · skip
    refine pg_iconst (pc := 15) (v := 1) hC dX3_reasonAgainst_15 (by decide) ?_
    exact pg_iret (pc := 16) hC dX3_reasonAgainst_16 rfl ⟨(by simp [sReason, c1]), rfl⟩
abbrev rmX3_isWornOut : Room := { frames := 2, cells := 0, slots := 0, locals := 46 }
set_option maxHeartbeats 2000000 in
set_option maxRecDepth 20000 in
theorem cX3_isWornOut_c (l : Launch) {κ : pv_Kt} {L : List Nat} {f : Nat → va_E} {x : Nat → Nat → Nat} {i : Nat} (hi : i < 9) {Z : Nat → Nat → Nat → Int32} {z : Nat → Nat → Int32} (hok : pv_ok κ x L f (va_up Z i z)) (e : Nat) (he : e < 12) : pv_Mi l κ yX3_isWornOut wsX3_isWornOut rmX3_isWornOut L f [.ref (x i 1), .int (nI e)] 0 0 (pv_R L f (sWO z e)) := by
  refine pv_startI (cc := cX3_isWornOut) (maxL := 3) (ret := (some .boolean)) (by decide) rfl (Nat.le_of_ble_eq_true rfl) (fun A0 P0 E0 S0 M0 a0 B0 T0 C0 hC => ?_)
  refine pg_sub (vs' := [(0, .ref (x i 1)), (1, .int (nI e))]) [0, 1] rfl ?_
  refine pg_iconst (pc := 0) (v := 0) hC dX3_isWornOut_0 (by decide) ?_
  refine pg_istore_n (pc := 1) (vs' := [(2, .int 0), (0, .ref (x i 1)), (1, .int (nI e))]) hC dX3_isWornOut_1 rfl (by decide) rfl ?_
  refine pg_sub (vs' := [(0, .ref (x i 1)), (1, .int (nI e)), (2, .int 0)]) [1, 2, 0] rfl ?_
  refine pg_loop (pc := 2) (σ := Nat) (I := fun q => match q with | k => k ≤ 10 ∧ ∀ p : Nat, p < k → sNov z p e ≤ 0) (μ := fun q => match q with | k => 10 - k) (VS := fun q => match q with | k => [(0, .ref (x i 1)), (1, .int (nI e)), (2, .int (nI k))]) (FF := fun q => match q with | k => f) ?_ (0) ⟨by decide, fun p h => absurd h (Nat.not_lt_zero p)⟩
  intro q hI ih1
  obtain ⟨k, rfl⟩ : ∃ z, z = q := ⟨_, rfl⟩
  dsimp only at hI ih1 ⊢
  have hI2 := hI
  obtain ⟨hk, hall⟩ := hI
  refine pg_iload_n (pc := 2) hC dX3_isWornOut_2 2 rfl rfl ?_
  refine pg_bipush (pc := 3) (v := 10) hC dX3_isWornOut_3 (by decide) ?_
  refine pg_icmp_geN (pc := 5) hC 25 dX3_isWornOut_5 (by decide) (k) (10) rfl rfl (by omega) (by omega) (fun c2 => ?_) (fun c2 => ?_)
  · skip
    refine pg_iconst (pc := 25) (v := 1) hC dX3_isWornOut_25 (by decide) ?_
    exact pg_zret (pc := 26) hC dX3_isWornOut_26 rfl rfl ⟨(by unfold sWO; rw [if_pos (fun p h => hall p (by omega))]), rfl⟩
  · skip
    refine pg_aload_n (pc := 8) hC dX3_isWornOut_8 0 rfl rfl ?_
    refine pg_iload_n (pc := 9) hC dX3_isWornOut_9 2 rfl rfl ?_
    refine pg_iload_n (pc := 10) hC dX3_isWornOut_10 1 rfl rfl ?_
    refine pg_callVRi (pc := 11) (As := [.int (nI k), .int (nI e)]) (rest := []) hC dX3_isWornOut_11 (cX3_noveltyFor_c l hi hok (k) (e) (by omega) (by omega)) (cwV 2 hC.2.2.2.2.1 gX3_isWornOut_X3_noveltyFor rfl rfl rfl (by decide +kernel) ⟨Nat.le_of_ble_eq_true rfl, Nat.le_of_ble_eq_true rfl⟩) (ok_Sm hok hi 1 (by decide)) (og_So hok hi) rfl rfl rfl rfl (Nat.le_of_ble_eq_true rfl) (Nat.zero_le _) (Nat.zero_le _) ?_
    refine pg_if_le (pc := 14) hC 19 dX3_isWornOut_14 (by decide)  (fun c3 => ?_) (fun c3 => ?_)
    · skip
      refine pg_iinc (pc := 19) (v := nI (k + 1)) (vs' := [(2, .int (nI (k + 1))), (0, .ref (x i 1)), (1, .int (nI e))]) hC dX3_isWornOut_19 2 rfl (nI_add (k) 1) (by decide) rfl ?_
      refine pg_goto (pc := 22) hC 2 dX3_isWornOut_22 (by decide) ?_
      refine pg_sub (vs' := [(0, .ref (x i 1)), (1, .int (nI e)), (2, .int (nI (k + 1)))]) [1, 2, 0] rfl ?_
      exact ih1 (k + 1) ⟨by omega, fun p h => (Nat.lt_succ_iff_lt_or_eq.mp h).elim (hall p) (fun q => q ▸ c3)⟩ (by omega)
    · skip
      refine pg_iconst (pc := 17) (v := 0) hC dX3_isWornOut_17 (by decide) ?_
      exact pg_zret (pc := 18) hC dX3_isWornOut_18 rfl rfl ⟨(by unfold sWO; rw [if_neg (fun q => c3 (q k (by omega)))]), rfl⟩
abbrev rmX3_wornOutExcuses : Room := { frames := 3, cells := 0, slots := 0, locals := 68 }
theorem miX3_wornOutExcuses_X3 : ∀ w ∈ wsX30, w ∈ wsX3_wornOutExcuses := fun _ h => List.mem_cons_of_mem _ (List.mem_append_right _ h)
set_option maxHeartbeats 2000000 in
set_option maxRecDepth 20000 in
theorem cX3_wornOutExcuses_c (l : Launch) {κ : pv_Kt} {L : List Nat} {f : Nat → va_E} {x : Nat → Nat → Nat} {i : Nat} (hi : i < 9) {Z : Nat → Nat → Nat → Int32} {z : Nat → Nat → Int32} (hok : pv_ok κ x L f (va_up Z i z)) (n : Nat) (hn : z 1 0 = nI n) (hn12 : n ≤ 12) : pv_Mi l κ yX3_wornOutExcuses wsX3_wornOutExcuses rmX3_wornOutExcuses L f [.ref (x i 1)] 0 0 (pv_R L f (sWOs z n)) := by
  refine pv_startI (cc := cX3_wornOutExcuses) (maxL := 3) (ret := (some .int)) (by decide) rfl (Nat.le_of_ble_eq_true rfl) (fun A0 P0 E0 S0 M0 a0 B0 T0 C0 hC => ?_)
  refine pg_sub (vs' := [(0, .ref (x i 1))]) [0] rfl ?_
  refine pg_iconst (pc := 0) (v := 0) hC dX3_wornOutExcuses_0 (by decide) ?_
  refine pg_istore_n (pc := 1) (vs' := [(1, .int 0), (0, .ref (x i 1))]) hC dX3_wornOutExcuses_1 rfl (by decide) rfl ?_
  refine pg_iconst (pc := 2) (v := 0) hC dX3_wornOutExcuses_2 (by decide) ?_
  refine pg_istore_n (pc := 3) (vs' := [(2, .int 0), (1, .int 0), (0, .ref (x i 1))]) hC dX3_wornOutExcuses_3 rfl (by decide) rfl ?_
  refine pg_sub (vs' := [(0, .ref (x i 1)), (1, .int 0), (2, .int 0)]) [2, 1, 0] rfl ?_
  refine pg_loop (pc := 4) (σ := Nat) (I := fun q => match q with | k => k ≤ n) (μ := fun q => match q with | k => n - k) (VS := fun q => match q with | k => [(0, .ref (x i 1)), (1, .int (sCnt (fun e => sWO z e) k)), (2, .int (nI k))]) (FF := fun q => match q with | k => f) ?_ (0) (Nat.zero_le _)
  intro q hI ih1
  obtain ⟨k, rfl⟩ : ∃ z, z = q := ⟨_, rfl⟩
  dsimp only at hI ih1 ⊢
  have hI2 := hI
  obtain hk := hI
  refine pg_iload_n (pc := 4) hC dX3_wornOutExcuses_4 2 rfl rfl ?_
  refine pg_aload_n (pc := 5) hC dX3_wornOutExcuses_5 0 rfl rfl ?_
  refine pgS_geti (pc := 6) (v := nI n) hC dX3_wornOutExcuses_6 1 (List.mem_of_getElem? (i := 1) rfl) miX3_wornOutExcuses_X3 hok hi (by decide) hn ?_
  refine pg_icmp_geN (pc := 9) hC 29 dX3_wornOutExcuses_9 (by decide) (k) (n) rfl rfl (by omega) (by omega) (fun c2 => ?_) (fun c2 => ?_)
  · skip
    refine pg_iload_n (pc := 29) hC dX3_wornOutExcuses_29 1 rfl rfl ?_
    exact pg_iret (pc := 30) hC dX3_wornOutExcuses_30 rfl ⟨(by rw [show k = n by omega]; rfl), rfl⟩
  · skip
    refine pg_aload_n (pc := 12) hC dX3_wornOutExcuses_12 0 rfl rfl ?_
    refine pg_iload_n (pc := 13) hC dX3_wornOutExcuses_13 2 rfl rfl ?_
    refine pg_callVRi (pc := 14) (As := [.int (nI k)]) (rest := []) hC dX3_wornOutExcuses_14 (cX3_isWornOut_c l hi hok (k) (by omega)) (cwV 1 hC.2.2.2.2.1 gX3_wornOutExcuses_X3_isWornOut rfl rfl rfl (by decide +kernel) ⟨Nat.le_of_ble_eq_true rfl, Nat.le_of_ble_eq_true rfl⟩) (ok_Sm hok hi 1 (by decide)) (og_So hok hi) rfl rfl rfl rfl (Nat.le_of_ble_eq_true rfl) (Nat.zero_le _) (Nat.zero_le _) ?_
    refine pg_if_eq (pc := 17) hC 23 dX3_wornOutExcuses_17 (by decide)  (fun c3 => ?_) (fun c3 => ?_)
    · skip
      refine pg_iinc (pc := 23) (v := nI (k + 1)) (vs' := [(2, .int (nI (k + 1))), (0, .ref (x i 1)), (1, .int (sCnt (fun e => sWO z e) k))]) hC dX3_wornOutExcuses_23 2 rfl (nI_add (k) 1) (by decide) rfl ?_
      refine pg_goto (pc := 26) hC 4 dX3_wornOutExcuses_26 (by decide) ?_
      refine pg_sub (vs' := [(0, .ref (x i 1)), (1, .int (sCnt (fun e => sWO z e) k)), (2, .int (nI (k + 1)))]) [1, 2, 0] rfl ?_
      refine pg_vs (vs' := [(0, .ref (x i 1)), (1, .int (sCnt (fun e => sWO z e) (k + 1))), (2, .int (nI (k + 1)))]) (by rw [show sCnt (fun e => sWO z e) (k + 1) = _ from if_pos c3]) ?_
      exact ih1 (k + 1) (by omega) (by omega)
    · skip
      refine pg_iinc (pc := 20) (v := (sCnt (fun e => sWO z e) k) + 1) (vs' := [(1, .int ((sCnt (fun e => sWO z e) k) + 1)), (0, .ref (x i 1)), (2, .int (nI k))]) hC dX3_wornOutExcuses_20 1 rfl rfl (by decide) rfl ?_
      refine pg_iinc (pc := 23) (v := nI (k + 1)) (vs' := [(2, .int (nI (k + 1))), (1, .int ((sCnt (fun e => sWO z e) k) + 1)), (0, .ref (x i 1))]) hC dX3_wornOutExcuses_23 2 rfl (nI_add (k) 1) (by decide) rfl ?_
      refine pg_goto (pc := 26) hC 4 dX3_wornOutExcuses_26 (by decide) ?_
      refine pg_sub (vs' := [(0, .ref (x i 1)), (1, .int ((sCnt (fun e => sWO z e) k) + 1)), (2, .int (nI (k + 1)))]) [2, 1, 0] rfl ?_
      refine pg_vs (vs' := [(0, .ref (x i 1)), (1, .int (sCnt (fun e => sWO z e) (k + 1))), (2, .int (nI (k + 1)))]) (by rw [show sCnt (fun e => sWO z e) (k + 1) = _ from if_neg c3]) ?_
      exact ih1 (k + 1) (by omega) (by omega)
