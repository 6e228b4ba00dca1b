abbrev rmX5_in : Room := { frames := 0, cells := 0, slots := 0, locals := 0 }
set_option maxHeartbeats 2000000 in
set_option maxRecDepth 20000 in
theorem cX5_in_c (l : Launch) {κ : pv_Kt} {L : List Nat} {f : Nat → va_E} (v lo hi : Int32) : pv_Mi l κ yX5_in wsX5_in rmX5_in L f [.int v, .int lo, .int hi] 0 0 (pv_R L f (bW v lo hi)) := by
  refine pv_startI (cc := cX5_in) (maxL := 3) (ret := (some .boolean)) (by decide) rfl (Nat.le_of_ble_eq_true rfl) (fun A0 P0 E0 S0 M0 a0 B0 T0 C0 hC => ?_)
  refine pg_sub (vs' := [(0, .int v), (1, .int lo), (2, .int hi)]) [0, 1, 2] rfl ?_
  refine pg_iload_n (pc := 0) hC dX5_in_0 0 rfl rfl ?_
  refine pg_iload_n (pc := 1) hC dX5_in_1 1 rfl rfl ?_
  refine pg_icmp_lt (pc := 2) hC 14 dX5_in_2 (by decide)  (fun c1 => ?_) (fun c1 => ?_)
  · skip
    refine pg_iconst (pc := 14) (v := 0) hC dX5_in_14 (by decide) ?_
    exact pg_zret (pc := 15) hC dX5_in_15 rfl rfl ⟨(by first | rfl | (unfold bW; simp only [c1, if_true, if_false, ite_true, ite_false]; done) | (simp [bW, c1]; done)), rfl⟩
  · skip
    refine pg_iload_n (pc := 5) hC dX5_in_5 0 rfl rfl ?_
    refine pg_iload_n (pc := 6) hC dX5_in_6 2 rfl rfl ?_
    refine pg_icmp_gt (pc := 7) hC 14 dX5_in_7 (by decide)  (fun c2 => ?_) (fun c2 => ?_)
    · skip
      refine pg_iconst (pc := 14) (v := 0) hC dX5_in_14 (by decide) ?_
      exact pg_zret (pc := 15) hC dX5_in_15 rfl rfl ⟨(by first | rfl | (unfold bW; simp only [c1, c2, if_true, if_false, ite_true, ite_false]; done) | (simp [bW, c1, c2]; done)), rfl⟩
    · skip
      refine pg_iconst (pc := 10) (v := 1) hC dX5_in_10 (by decide) ?_
      refine pg_goto (pc := 11) hC 15 dX5_in_11 (by decide) ?_
      exact pg_zret (pc := 15) hC dX5_in_15 rfl rfl ⟨(by first | rfl | (unfold bW; simp only [c1, c2, if_true, if_false, ite_true, ite_false]; done) | (simp [bW, c1, c2]; done)), rfl⟩
abbrev rmX5_isPupil : Room := { frames := 1, cells := 0, slots := 0, locals := 22 }
set_option maxHeartbeats 2000000 in
set_option maxRecDepth 20000 in
theorem cX5_isPupil_c (l : Launch) {κ : pv_Kt} {L : List Nat} {f : Nat → va_E} (v : Int32) : pv_Mi l κ yX5_isPupil wsX5_isPupil rmX5_isPupil L f [.int v] 0 0 (pv_R L f (bW v 0 9)) := by
  refine pv_startI (cc := cX5_isPupil) (maxL := 1) (ret := (some .boolean)) (by decide) rfl (Nat.le_of_ble_eq_true rfl) (fun A0 P0 E0 S0 M0 a0 B0 T0 C0 hC => ?_)
  refine pg_sub (vs' := [(0, .int v)]) [0] rfl ?_
  refine pg_iload_n (pc := 0) hC dX5_isPupil_0 0 rfl rfl ?_
  refine pg_iconst (pc := 1) (v := 0) hC dX5_isPupil_1 (by decide) ?_
  refine pg_bipush (pc := 2) (v := 9) hC dX5_isPupil_2 (by decide) ?_
  refine pg_callSRi (pc := 4) (As := [.int v, .int 0, .int 9]) (rest := []) hC dX5_isPupil_4 (cX5_in_c l v 0 9) (va_cwS 3 hC.2.2.2.2.1 gX5_isPupil_X5_in rfl rfl rfl (by decide +kernel) ⟨Nat.le_of_ble_eq_true rfl, Nat.le_of_ble_eq_true rfl⟩) rfl rfl (Nat.le_of_ble_eq_true rfl) (Nat.zero_le _) (Nat.zero_le _) ?_
  exact pg_zret (pc := 7) hC dX5_isPupil_7 rfl (bW_z _ _ _) ⟨(by first | rfl | simp []), rfl⟩
abbrev rmX5_of : Room := { frames := 0, cells := 0, slots := 0, locals := 0 }
theorem miX5_of_X5 : ∀ w ∈ wsX50, w ∈ wsX5_of := fun _ h => List.mem_cons_of_mem _ (List.mem_append_right _ h)
set_option maxHeartbeats 2000000 in
set_option maxRecDepth 20000 in
theorem cX5_of_c (l : Launch) {κ : pv_Kt} {L : List Nat} {f : Nat → va_E} {x : Nat → Nat → Nat} {Z : Nat → Nat → Nat → Int32} {g : Nat → Nat → Int32} (hok : pv_ok κ x L f (va_up Z 11 g)) (p k : Nat) (hp : p < 10) (hk : k < 6) : pv_Mi l κ yX5_of wsX5_of rmX5_of L f [.ref (x 11 2), .int (nI p), .int (nI k)] 0 0 (pv_R L f (g 0 (54 + 6 * p + k))) := by
  refine pv_startI (cc := cX5_of) (maxL := 3) (ret := (some .int)) (by decide) rfl (Nat.le_of_ble_eq_true rfl) (fun A0 P0 E0 S0 M0 a0 B0 T0 C0 hC => ?_)
  refine pg_sub (vs' := [(0, .ref (x 11 2)), (1, .int (nI p)), (2, .int (nI k))]) [0, 1, 2] rfl ?_
  refine pg_aload_n (pc := 0) hC dX5_of_0 0 rfl rfl ?_
  refine pgM_geta (pc := 1) hC dX5_of_1 0 (List.mem_of_getElem? (i := 1) rfl) miX5_of_X5 hok (by decide) ?_
  refine pg_bipush (pc := 4) (v := 54) hC dX5_of_4 (by decide) ?_
  refine pg_bipush (pc := 6) (v := 6) hC dX5_of_6 (by decide) ?_
  refine pg_iload_n (pc := 8) hC dX5_of_8 1 rfl rfl ?_
  refine pg_imul (pc := 9) (v := nI (6 * p)) hC dX5_of_9 (pk_mul (6) (p)) ?_
  refine pg_iadd (pc := 10) (v := nI (54 + (6 * p))) hC dX5_of_10 (nI_add (54) (6 * p)) ?_
  refine pg_iload_n (pc := 11) hC dX5_of_11 2 rfl rfl ?_
  refine pg_iadd (pc := 12) (v := nI (54 + (6 * p) + k)) hC dX5_of_12 (nI_add (54 + (6 * p)) (k)) ?_
  refine pgM_iald (pc := 13) (v := g 0 (54 + (6 * p) + k)) hC dX5_of_13 0 (54 + (6 * p) + k) hok (by decide) (by decide) (by decide) rfl (show (54 + (6 * p) + k) < 234 by omega) rfl ?_
  exact pg_iret (pc := 14) hC dX5_of_14 rfl ⟨(by first | rfl | simp []), rfl⟩
abbrev rmX5_ofExcuse : Room := { frames := 0, cells := 0, slots := 0, locals := 0 }
theorem miX5_ofExcuse_X5 : ∀ w ∈ wsX50, w ∈ wsX5_ofExcuse := fun _ h => List.mem_cons_of_mem _ (List.mem_append_right _ h)
set_option maxHeartbeats 2000000 in
set_option maxRecDepth 20000 in
theorem cX5_ofExcuse_c (l : Launch) {κ : pv_Kt} {L : List Nat} {f : Nat → va_E} {x : Nat → Nat → Nat} {Z : Nat → Nat → Nat → Int32} {g : Nat → Nat → Int32} (hok : pv_ok κ x L f (va_up Z 11 g)) (e k : Nat) (he : e < 12) (hk : k < 3) : pv_Mi l κ yX5_ofExcuse wsX5_ofExcuse rmX5_ofExcuse L f [.ref (x 11 2), .int (nI e), .int (nI k)] 0 0 (pv_R L f (g 0 (18 + 3 * e + k))) := by
  refine pv_startI (cc := cX5_ofExcuse) (maxL := 3) (ret := (some .int)) (by decide) rfl (Nat.le_of_ble_eq_true rfl) (fun A0 P0 E0 S0 M0 a0 B0 T0 C0 hC => ?_)
  refine pg_sub (vs' := [(0, .ref (x 11 2)), (1, .int (nI e)), (2, .int (nI k))]) [0, 1, 2] rfl ?_
  refine pg_aload_n (pc := 0) hC dX5_ofExcuse_0 0 rfl rfl ?_
  refine pgM_geta (pc := 1) hC dX5_ofExcuse_1 0 (List.mem_of_getElem? (i := 1) rfl) miX5_ofExcuse_X5 hok (by decide) ?_
  refine pg_bipush (pc := 4) (v := 18) hC dX5_ofExcuse_4 (by decide) ?_
  refine pg_iconst (pc := 6) (v := 3) hC dX5_ofExcuse_6 (by decide) ?_
  refine pg_iload_n (pc := 7) hC dX5_ofExcuse_7 1 rfl rfl ?_
  refine pg_imul (pc := 8) (v := nI (3 * e)) hC dX5_ofExcuse_8 (pk_mul (3) (e)) ?_
  refine pg_iadd (pc := 9) (v := nI (18 + (3 * e))) hC dX5_ofExcuse_9 (nI_add (18) (3 * e)) ?_
  refine pg_iload_n (pc := 10) hC dX5_ofExcuse_10 2 rfl rfl ?_
  refine pg_iadd (pc := 11) (v := nI (18 + (3 * e) + k)) hC dX5_ofExcuse_11 (nI_add (18 + (3 * e)) (k)) ?_
  refine pgM_iald (pc := 12) (v := g 0 (18 + (3 * e) + k)) hC dX5_ofExcuse_12 0 (18 + (3 * e) + k) hok (by decide) (by decide) (by decide) rfl (show (18 + (3 * e) + k) < 234 by omega) rfl ?_
  exact pg_iret (pc := 13) hC dX5_ofExcuse_13 rfl ⟨(by first | rfl | simp []), rfl⟩
abbrev rmX5_isExcuse : Room := { frames := 1, cells := 0, slots := 0, locals := 22 }
theorem miX5_isExcuse_X5 : ∀ w ∈ wsX50, w ∈ wsX5_isExcuse := fun _ h => List.mem_cons_of_mem _ (List.mem_append_right _ h)
set_option maxHeartbeats 2000000 in
set_option maxRecDepth 20000 in
theorem cX5_isExcuse_c (l : Launch) {κ : pv_Kt} {L : List Nat} {f : Nat → va_E} {x : Nat → Nat → Nat} {Z : Nat → Nat → Nat → Int32} {g : Nat → Nat → Int32} (hok : pv_ok κ x L f (va_up Z 11 g)) {z : Nat → Nat → Int32} (hR : mR z (g 0)) {n : Nat} (hG : gd z n) (v : Int32) : pv_Mi l κ yX5_isExcuse wsX5_isExcuse rmX5_isExcuse L f [.ref (x 11 2), .int v] 0 0 (pv_R L f (bH z v)) := by
  refine pv_startI (cc := cX5_isExcuse) (maxL := 2) (ret := (some .boolean)) (by decide) rfl (Nat.le_of_ble_eq_true rfl) (fun A0 P0 E0 S0 M0 a0 B0 T0 C0 hC => ?_)
  refine pg_sub (vs' := [(0, .ref (x 11 2)), (1, .int v)]) [0, 1] rfl ?_
  refine pg_iload_n (pc := 0) hC dX5_isExcuse_0 1 rfl rfl ?_
  refine pg_iconst (pc := 1) (v := 0) hC dX5_isExcuse_1 (by decide) ?_
  refine pg_aload_n (pc := 2) hC dX5_isExcuse_2 0 rfl rfl ?_
  refine pgM_geta (pc := 3) hC dX5_isExcuse_3 0 (List.mem_of_getElem? (i := 1) rfl) miX5_isExcuse_X5 hok (by decide) ?_
  refine pg_iconst (pc := 6) (v := 5) hC dX5_isExcuse_6 (by decide) ?_
  refine pgM_iald (pc := 7) (v := nI n) hC dX5_isExcuse_7 0 (5) hok (by decide) (by decide) (by decide) rfl (show 5 < 234 by omega) ((hR 1 0 rfl).trans hG.n) ?_
  refine pg_iconst (pc := 8) (v := 1) hC dX5_isExcuse_8 (by decide) ?_
  refine pg_isub (pc := 9) (v := nI n - 1) hC dX5_isExcuse_9 rfl ?_
  refine pg_callSRi (pc := 10) (As := [.int v, .int 0, .int (nI n - 1)]) (rest := []) hC dX5_isExcuse_10 (cX5_in_c l v 0 (nI n - 1)) (va_cwS 3 hC.2.2.2.2.1 gX5_isExcuse_X5_in rfl rfl rfl (by decide +kernel) ⟨Nat.le_of_ble_eq_true rfl, Nat.le_of_ble_eq_true rfl⟩) rfl rfl (Nat.le_of_ble_eq_true rfl) (Nat.zero_le _) (Nat.zero_le _) ?_
  exact pg_zret (pc := 13) hC dX5_isExcuse_13 rfl (bW_z _ _ _) ⟨(bH_in hG.n hG.n12 v), rfl⟩
abbrev rmX5_uses : Room := { frames := 0, cells := 0, slots := 0, locals := 0 }
theorem miX5_uses_X5 : ∀ w ∈ wsX50, w ∈ wsX5_uses := fun _ h => List.mem_cons_of_mem _ (List.mem_append_right _ h)
set_option maxHeartbeats 2000000 in
set_option maxRecDepth 20000 in
theorem cX5_uses_c (l : Launch) {κ : pv_Kt} {L : List Nat} {f : Nat → va_E} {x : Nat → Nat → Nat} {Z : Nat → Nat → Nat → Int32} {g : Nat → Nat → Int32} (hok : pv_ok κ x L f (va_up Z 11 g)) {z : Nat → Nat → Int32} (hR : mR z (g 0)) (p e : Nat) (hp : p < 10) (he : e < 12) : pv_Mi l κ yX5_uses wsX5_uses rmX5_uses L f [.ref (x 11 2), .int (nI p), .int (nI e)] 0 0 (pv_R L f (sU z p e)) := by
  refine pv_startI (cc := cX5_uses) (maxL := 3) (ret := (some .int)) (by decide) rfl (Nat.le_of_ble_eq_true rfl) (fun A0 P0 E0 S0 M0 a0 B0 T0 C0 hC => ?_)
  refine pg_sub (vs' := [(0, .ref (x 11 2)), (1, .int (nI p)), (2, .int (nI e))]) [0, 1, 2] rfl ?_
  refine pg_aload_n (pc := 0) hC dX5_uses_0 0 rfl rfl ?_
  refine pgM_geta (pc := 1) hC dX5_uses_1 0 (List.mem_of_getElem? (i := 1) rfl) miX5_uses_X5 hok (by decide) ?_
  refine pg_bipush (pc := 4) (v := 114) hC dX5_uses_4 (by decide) ?_
  refine pg_bipush (pc := 6) (v := 10) hC dX5_uses_6 (by decide) ?_
  refine pg_iload_n (pc := 8) hC dX5_uses_8 2 rfl rfl ?_
  refine pg_imul (pc := 9) (v := nI (10 * e)) hC dX5_uses_9 (pk_mul (10) (e)) ?_
  refine pg_iadd (pc := 10) (v := nI (114 + (10 * e))) hC dX5_uses_10 (nI_add (114) (10 * e)) ?_
  refine pg_iload_n (pc := 11) hC dX5_uses_11 1 rfl rfl ?_
  refine pg_iadd (pc := 12) (v := nI (114 + (10 * e) + p)) hC dX5_uses_12 (nI_add (114 + (10 * e)) (p)) ?_
  refine pgM_iald (pc := 13) (v := sU z p e) hC dX5_uses_13 0 (114 + (10 * e) + p) hok (by decide) (by decide) (by decide) rfl (show (114 + (10 * e) + p) < 234 by omega) (mR_u hR p e (by omega) (by omega)) ?_
  exact pg_iret (pc := 14) hC dX5_uses_14 rfl ⟨(by first | rfl | simp []), rfl⟩
abbrev rmX5_usesBySchool : Room := { frames := 1, cells := 0, slots := 0, locals := 22 }
set_option maxHeartbeats 2000000 in
set_option maxRecDepth 20000 in
theorem cX5_usesBySchool_c (l : Launch) {κ : pv_Kt} {L : List Nat} {f : Nat → va_E} {x : Nat → Nat → Nat} {Z : Nat → Nat → Nat → Int32} {g : Nat → Nat → Int32} (hok : pv_ok κ x L f (va_up Z 11 g)) {z : Nat → Nat → Int32} (hR : mR z (g 0)) (e : Nat) (he : e < 12) : pv_Mi l κ yX5_usesBySchool wsX5_usesBySchool rmX5_usesBySchool L f [.ref (x 11 2), .int (nI e)] 0 0 (pv_R L f (sUS z e)) := by
  refine pv_startI (cc := cX5_usesBySchool) (maxL := 4) (ret := (some .int)) (by decide) rfl (Nat.le_of_ble_eq_true rfl) (fun A0 P0 E0 S0 M0 a0 B0 T0 C0 hC => ?_)
  refine pg_sub (vs' := [(0, .ref (x 11 2)), (1, .int (nI e))]) [0, 1] rfl ?_
  refine pg_iconst (pc := 0) (v := 0) hC dX5_usesBySchool_0 (by decide) ?_
  refine pg_istore_n (pc := 1) (vs' := [(2, .int 0), (0, .ref (x 11 2)), (1, .int (nI e))]) hC dX5_usesBySchool_1 rfl (by decide) rfl ?_
  refine pg_iconst (pc := 2) (v := 0) hC dX5_usesBySchool_2 (by decide) ?_
  refine pg_istore_n (pc := 3) (vs' := [(3, .int 0), (2, .int 0), (0, .ref (x 11 2)), (1, .int (nI e))]) hC dX5_usesBySchool_3 rfl (by decide) rfl ?_
  refine pg_sub (vs' := [(0, .ref (x 11 2)), (1, .int (nI e)), (2, .int 0), (3, .int 0)]) [2, 3, 1, 0] rfl ?_
  refine pg_loop (pc := 4) (σ := Nat) (I := fun q => match q with | k => k ≤ 10) (μ := fun q => match q with | k => 10 - k) (VS := fun q => match q with | k => [(0, .ref (x 11 2)), (1, .int (nI e)), (2, .int (bx_sum (fun p => sU z p e) k)), (3, .int (nI k))]) (FF := fun q => match q with | k => f) ?_ (0) (Nat.zero_le _)
  intro q hI ih1
  obtain ⟨k, rfl⟩ : ∃ z, z = q := ⟨_, rfl⟩
  dsimp only at hI ih1 ⊢
  have hI2 := hI
  obtain hk := hI
  refine pg_iload_n (pc := 4) hC dX5_usesBySchool_4 3 rfl rfl ?_
  refine pg_bipush (pc := 5) (v := 10) hC dX5_usesBySchool_5 (by decide) ?_
  refine pg_icmp_geN (pc := 7) hC 25 dX5_usesBySchool_7 (by decide) (k) (10) rfl rfl (by omega) (by omega) (fun c2 => ?_) (fun c2 => ?_)
  · skip
    refine pg_iload_n (pc := 25) hC dX5_usesBySchool_25 2 rfl rfl ?_
    exact pg_iret (pc := 26) hC dX5_usesBySchool_26 rfl ⟨(by rw [show k = 10 by omega, sUS_eq]; rfl), rfl⟩
  · skip
    refine pg_iload_n (pc := 10) hC dX5_usesBySchool_10 2 rfl rfl ?_
    refine pg_aload_n (pc := 11) hC dX5_usesBySchool_11 0 rfl rfl ?_
    refine pg_iload_n (pc := 12) hC dX5_usesBySchool_12 3 rfl rfl ?_
    refine pg_iload_n (pc := 13) hC dX5_usesBySchool_13 1 rfl rfl ?_
    refine pg_callVRi (pc := 14) (As := [.int (nI k), .int (nI e)]) (rest := [.int (bx_sum (fun p => sU z p e) k)]) hC dX5_usesBySchool_14 (cX5_uses_c l hok hR (k) (e) (by omega) (by omega)) (cwV 2 hC.2.2.2.2.1 gX5_usesBySchool_X5_uses rfl rfl rfl (by decide +kernel) ⟨Nat.le_of_ble_eq_true rfl, Nat.le_of_ble_eq_true rfl⟩) (ok_mem hok (by decide)) (ok_Mo hok) rfl rfl rfl rfl (Nat.le_of_ble_eq_true rfl) (Nat.zero_le _) (Nat.zero_le _) ?_
    refine pg_iadd (pc := 17) (v := (bx_sum (fun p => sU z p e) k) + (sU z (k) (e))) hC dX5_usesBySchool_17 rfl ?_
    refine pg_istore_n (pc := 18) (vs' := [(2, .int ((bx_sum (fun p => sU z p e) k) + (sU z (k) (e)))), (0, .ref (x 11 2)), (1, .int (nI e)), (3, .int (nI k))]) hC dX5_usesBySchool_18 rfl (by decide) rfl ?_
    refine pg_iinc (pc := 19) (v := nI (k + 1)) (vs' := [(3, .int (nI (k + 1))), (2, .int ((bx_sum (fun p => sU z p e) k) + (sU z (k) (e)))), (0, .ref (x 11 2)), (1, .int (nI e))]) hC dX5_usesBySchool_19 3 rfl (nI_add (k) 1) (by decide) rfl ?_
    refine pg_goto (pc := 22) hC 4 dX5_usesBySchool_22 (by decide) ?_
    refine pg_sub (vs' := [(0, .ref (x 11 2)), (1, .int (nI e)), (2, .int ((bx_sum (fun p => sU z p e) k) + (sU z (k) (e)))), (3, .int (nI (k + 1)))]) [2, 3, 1, 0] rfl ?_
    exact ih1 (k + 1) (by omega) (by omega)
abbrev rmX5_usesByClass : Room := { frames := 1, cells := 0, slots := 0, locals := 22 }
set_option maxHeartbeats 2000000 in
set_option maxRecDepth 20000 in
theorem cX5_usesByClass_c (l : Launch) {κ : pv_Kt} {L : List Nat} {f : Nat → va_E} {x : Nat → Nat → Nat} {Z : Nat → Nat → Nat → Int32} {g : Nat → Nat → Int32} (hok : pv_ok κ x L f (va_up Z 11 g)) {z : Nat → Nat → Int32} (hR : mR z (g 0)) (p e : Nat) (hp : p < 10) (he : e < 12) : pv_Mi l κ yX5_usesByClass wsX5_usesByClass rmX5_usesByClass L f [.ref (x 11 2), .int (nI p), .int (nI e)] 0 0 (pv_R L f (sUC z (p / 2) e)) := by
  refine pv_startI (cc := cX5_usesByClass) (maxL := 4) (ret := (some .int)) (by decide) rfl (Nat.le_of_ble_eq_true rfl) (fun A0 P0 E0 S0 M0 a0 B0 T0 C0 hC => ?_)
  refine pg_sub (vs' := [(0, .ref (x 11 2)), (1, .int (nI p)), (2, .int (nI e))]) [0, 1, 2] rfl ?_
  refine pg_iload_n (pc := 0) hC dX5_usesByClass_0 1 rfl rfl ?_
  refine pg_iload_n (pc := 1) hC dX5_usesByClass_1 1 rfl rfl ?_
  refine pg_iconst (pc := 2) (v := 2) hC dX5_usesByClass_2 (by decide) ?_
  refine pg_irem (pc := 3) (v := nI (p % 2)) hC dX5_usesByClass_3 (by decide) (pk_rem (a := p) (d := 2) (by omega) (by omega) (by omega)) ?_
  refine pg_isub (pc := 4) (v := nI (p - (p % 2))) hC dX5_usesByClass_4 (pk_sub (a := p) (b := p % 2) (by omega)) ?_
  refine pg_istore_n (pc := 5) (vs' := [(3, .int (nI (p - (p % 2)))), (0, .ref (x 11 2)), (1, .int (nI p)), (2, .int (nI e))]) hC dX5_usesByClass_5 rfl (by decide) rfl ?_
  refine pg_aload_n (pc := 6) hC dX5_usesByClass_6 1 rfl rfl ?_
  refine pg_iload_n (pc := 7) hC dX5_usesByClass_7 0 rfl rfl ?_
  refine pg_iload_n (pc := 8) hC dX5_usesByClass_8 3 rfl rfl ?_
  refine pg_callVRi (pc := 9) (As := [.int (nI (p - (p % 2))), .int (nI e)]) (rest := []) hC dX5_usesByClass_9 (cX5_uses_c l hok hR (p - (p % 2)) (e) (by omega) (by omega)) (cwV 2 hC.2.2.2.2.1 gX5_usesByClass_X5_uses rfl rfl rfl (by decide +kernel) ⟨Nat.le_of_ble_eq_true rfl, Nat.le_of_ble_eq_true rfl⟩) (ok_mem hok (by decide)) (ok_Mo hok) rfl rfl rfl rfl (Nat.le_of_ble_eq_true rfl) (Nat.zero_le _) (Nat.zero_le _) ?_
  refine pg_aload_n (pc := 12) hC dX5_usesByClass_12 1 rfl rfl ?_
  refine pg_iload_n (pc := 13) hC dX5_usesByClass_13 0 rfl rfl ?_
  refine pg_iconst (pc := 14) (v := 1) hC dX5_usesByClass_14 (by decide) ?_
  refine pg_iadd (pc := 15) (v := nI (p - (p % 2) + 1)) hC dX5_usesByClass_15 (nI_add (p - (p % 2)) (1)) ?_
  refine pg_iload_n (pc := 16) hC dX5_usesByClass_16 3 rfl rfl ?_
  refine pg_callVRi (pc := 17) (As := [.int (nI (p - (p % 2) + 1)), .int (nI e)]) (rest := [.int (sU z (p - (p % 2)) (e))]) hC dX5_usesByClass_17 (cX5_uses_c l hok hR (p - (p % 2) + 1) (e) (by omega) (by omega)) (cwV 2 hC.2.2.2.2.1 gX5_usesByClass_X5_uses rfl rfl rfl (by decide +kernel) ⟨Nat.le_of_ble_eq_true rfl, Nat.le_of_ble_eq_true rfl⟩) (ok_mem hok (by decide)) (ok_Mo hok) rfl rfl rfl rfl (Nat.le_of_ble_eq_true rfl) (Nat.zero_le _) (Nat.zero_le _) ?_
  refine pg_iadd (pc := 20) (v := (sU z (p - (p % 2)) (e)) + (sU z (p - (p % 2) + 1) (e))) hC dX5_usesByClass_20 rfl ?_
  exact pg_iret (pc := 21) hC dX5_usesByClass_21 rfl ⟨(sUC_eq z p e), rfl⟩
abbrev rmX5_noveltyOf : Room := { frames := 2, cells := 0, slots := 0, locals := 45 }
theorem miX5_noveltyOf_X5 : ∀ w ∈ wsX50, w ∈ wsX5_noveltyOf := fun _ h => List.mem_cons_of_mem _ (List.mem_append_right _ h)
set_option maxHeartbeats 2000000 in
set_option maxRecDepth 20000 in
theorem cX5_noveltyOf_c (l : Launch) {κ : pv_Kt} {L : List Nat} {f : Nat → va_E} {x : Nat → Nat → Nat} {Z : Nat → Nat → Nat → Int32} {g : Nat → Nat → Int32} (hok : pv_ok κ x L f (va_up Z 11 g)) {z : Nat → Nat → Int32} (hR : mR z (g 0)) (p e : Nat) (hp : p < 10) (he : e < 12) : pv_Mi l κ yX5_noveltyOf wsX5_noveltyOf rmX5_noveltyOf L f [.ref (x 11 2), .int (nI p), .int (nI e)] 0 0 (pv_R L f (sNov z p e)) := by
  refine pv_startI (cc := cX5_noveltyOf) (maxL := 4) (ret := (some .int)) (by decide) rfl (Nat.le_of_ble_eq_true rfl) (fun A0 P0 E0 S0 M0 a0 B0 T0 C0 hC => ?_)
  refine pg_sub (vs' := [(0, .ref (x 11 2)), (1, .int (nI p)), (2, .int (nI e))]) [0, 1, 2] rfl ?_
  refine pg_bipush (pc := 0) (v := 100) hC dX5_noveltyOf_0 (by decide) ?_
  refine pg_aload_n (pc := 2) hC dX5_noveltyOf_2 0 rfl rfl ?_
  refine pgM_geta (pc := 3) hC dX5_noveltyOf_3 0 (List.mem_of_getElem? (i := 1) rfl) miX5_noveltyOf_X5 hok (by decide) ?_
  refine pg_iconst (pc := 6) (v := 1) hC dX5_noveltyOf_6 (by decide) ?_
  refine pgM_iald (pc := 7) (v := z 0 1) hC dX5_noveltyOf_7 0 (1) hok (by decide) (by decide) (by decide) rfl (show 1 < 234 by omega) (hR 0 1 (show 1 < 5 by decide)) ?_
  refine pg_aload_n (pc := 8) hC dX5_noveltyOf_8 0 rfl rfl ?_
  refine pg_iload_n (pc := 9) hC dX5_noveltyOf_9 2 rfl rfl ?_
  refine pg_callVRi (pc := 10) (As := [.int (nI e)]) (rest := [.int (z 0 1), .int 100]) hC dX5_noveltyOf_10 (cX5_usesBySchool_c l hok hR (e) (by omega)) (cwV 1 hC.2.2.2.2.1 gX5_noveltyOf_X5_usesBySchool rfl rfl rfl (by decide +kernel) ⟨Nat.le_of_ble_eq_true rfl, Nat.le_of_ble_eq_true rfl⟩) (ok_mem hok (by decide)) (ok_Mo hok) rfl rfl rfl rfl (Nat.le_of_ble_eq_true rfl) (Nat.zero_le _) (Nat.zero_le _) ?_
  refine pg_aload_n (pc := 13) hC dX5_noveltyOf_13 0 rfl rfl ?_
  refine pg_iload_n (pc := 14) hC dX5_noveltyOf_14 1 rfl rfl ?_
  refine pg_iload_n (pc := 15) hC dX5_noveltyOf_15 2 rfl rfl ?_
  refine pg_callVRi (pc := 16) (As := [.int (nI p), .int (nI e)]) (rest := [.int (sUS z (e)), .int (z 0 1), .int 100]) hC dX5_noveltyOf_16 (cX5_usesByClass_c l hok hR (p) (e) (by omega) (by omega)) (cwV 2 hC.2.2.2.2.1 gX5_noveltyOf_X5_usesByClass rfl rfl rfl (by decide +kernel) ⟨Nat.le_of_ble_eq_true rfl, Nat.le_of_ble_eq_true rfl⟩) (ok_mem hok (by decide)) (ok_Mo hok) rfl rfl rfl rfl (Nat.le_of_ble_eq_true rfl) (Nat.zero_le _) (Nat.zero_le _) ?_
  refine pg_iadd (pc := 19) (v := (sUS z (e)) + (sUC z (p / 2) (e))) hC dX5_noveltyOf_19 rfl ?_
  refine pg_imul (pc := 20) (v := (z 0 1) * ((sUS z (e)) + (sUC z (p / 2) (e)))) hC dX5_noveltyOf_20 rfl ?_
  refine pg_isub (pc := 21) (v := 100 - ((z 0 1) * ((sUS z (e)) + (sUC z (p / 2) (e))))) hC dX5_noveltyOf_21 rfl ?_
  refine pg_istore_n (pc := 22) (vs' := [(3, .int (100 - ((z 0 1) * ((sUS z (e)) + (sUC z (p / 2) (e)))))), (0, .ref (x 11 2)), (1, .int (nI p)), (2, .int (nI e))]) hC dX5_noveltyOf_22 rfl (by decide) rfl ?_
  refine pg_iload_n (pc := 23) hC dX5_noveltyOf_23 0 rfl rfl ?_
  refine pg_if_ge (pc := 24) hC 31 dX5_noveltyOf_24 (by decide)  (fun c1 => ?_) (fun c1 => ?_)
  · skip
    refine pg_iload_n (pc := 31) hC dX5_noveltyOf_31 0 rfl rfl ?_
    exact pg_iret (pc := 32) hC dX5_noveltyOf_32 rfl ⟨(by unfold sNov; rw [← sMax0_alt, if_neg (Int32.not_lt.mpr c1)]), rfl⟩
  · skip
    refine pg_iconst (pc := 27) (v := 0) hC dX5_noveltyOf_27 (by decide) ?_
    refine pg_goto (pc := 28) hC 32 dX5_noveltyOf_28 (by decide) ?_
    exact pg_iret (pc := 32) hC dX5_noveltyOf_32 rfl ⟨(by unfold sNov; rw [← sMax0_alt, if_pos (Int32.not_le.mp c1)]), rfl⟩
abbrev rmX5_grudge : Room := { frames := 0, cells := 0, slots := 0, locals := 0 }
theorem miX5_grudge_X5 : ∀ w ∈ wsX50, w ∈ wsX5_grudge := fun _ h => List.mem_cons_of_mem _ (List.mem_append_right _ h)
set_option maxHeartbeats 2000000 in
set_option maxRecDepth 20000 in
theorem cX5_grudge_c (l : Launch) {κ : pv_Kt} {L : List Nat} {f : Nat → va_E} {x : Nat → Nat → Nat} {Z : Nat → Nat → Nat → Int32} {g : Nat → Nat → Int32} (hok : pv_ok κ x L f (va_up Z 11 g)) {z : Nat → Nat → Int32} (hR : mR z (g 0)) (p : Nat) (hp : p < 10) : pv_Mi l κ yX5_grudge wsX5_grudge rmX5_grudge L f [.ref (x 11 2), .int (nI p)] 0 0 (pv_R L f (z 12 (p / 2))) := by
  refine pv_startI (cc := cX5_grudge) (maxL := 2) (ret := (some .int)) (by decide) rfl (Nat.le_of_ble_eq_true rfl) (fun A0 P0 E0 S0 M0 a0 B0 T0 C0 hC => ?_)
  refine pg_sub (vs' := [(0, .ref (x 11 2)), (1, .int (nI p))]) [0, 1] rfl ?_
  refine pg_aload_n (pc := 0) hC dX5_grudge_0 0 rfl rfl ?_
  refine pgM_geta (pc := 1) hC dX5_grudge_1 0 (List.mem_of_getElem? (i := 1) rfl) miX5_grudge_X5 hok (by decide) ?_
  refine pg_bipush (pc := 4) (v := 13) hC dX5_grudge_4 (by decide) ?_
  refine pg_iload_n (pc := 6) hC dX5_grudge_6 1 rfl rfl ?_
  refine pg_iconst (pc := 7) (v := 2) hC dX5_grudge_7 (by decide) ?_
  refine pg_idiv (pc := 8) (v := nI (p / 2)) hC dX5_grudge_8 (by decide) (pk_div (a := p) (d := 2) (by omega) (by omega) (by omega)) ?_
  refine pg_iadd (pc := 9) (v := nI (13 + (p / 2))) hC dX5_grudge_9 (nI_add (13) (p / 2)) ?_
  refine pgM_iald (pc := 10) (v := z 12 (p / 2)) hC dX5_grudge_10 0 (13 + (p / 2)) hok (by decide) (by decide) (by decide) rfl (show (13 + (p / 2)) < 234 by omega) (hR 12 (p / 2) (show (p / 2) < 5 by omega)) ?_
  exact pg_iret (pc := 11) hC dX5_grudge_11 rfl ⟨(by first | rfl | simp []), rfl⟩
abbrev rmX5_standsBy : Room := { frames := 1, cells := 0, slots := 0, locals := 22 }
set_option maxHeartbeats 2000000 in
set_option maxRecDepth 20000 in
theorem cX5_standsBy_c (l : Launch) {κ : pv_Kt} {L : List Nat} {f : Nat → va_E} {x : Nat → Nat → Nat} {Z : Nat → Nat → Nat → Int32} {g : Nat → Nat → Int32} (hok : pv_ok κ x L f (va_up Z 11 g)) {z : Nat → Nat → Int32} (hR : mR z (g 0)) {n : Nat} (hG : gd z n) (wt : Int32) (hw : wt = -6 ∨ ∃ w : Nat, w < 10 ∧ wt = nI w) (p : Nat) (hp : p < 10) : pv_Mi l κ yX5_standsBy wsX5_standsBy rmX5_standsBy L f [.ref (x 11 2), .int wt, .int (nI p)] 0 0 (pv_R L f (sSt z wt p)) := by
  refine pv_startI (cc := cX5_standsBy) (maxL := 4) (ret := (some .int)) (by decide) rfl (Nat.le_of_ble_eq_true rfl) (fun A0 P0 E0 S0 M0 a0 B0 T0 C0 hC => ?_)
  refine pg_sub (vs' := [(0, .ref (x 11 2)), (1, .int wt), (2, .int (nI p))]) [0, 1, 2] rfl ?_
  refine pg_iload_n (pc := 0) hC dX5_standsBy_0 1 rfl rfl ?_
  refine pg_bipush (pc := 1) (v := (-6)) hC dX5_standsBy_1 (by decide) ?_
  refine pg_icmp_ne (pc := 3) hC 8 dX5_standsBy_3 (by decide)  (fun c1 => ?_) (fun c1 => ?_)
  · skip
    obtain ⟨w, hw10, rfl⟩ := hw.resolve_left c1
    refine pg_aload_n (pc := 8) hC dX5_standsBy_8 0 rfl rfl ?_
    refine pg_iload_n (pc := 9) hC dX5_standsBy_9 1 rfl rfl ?_
    refine pg_iconst (pc := 10) (v := 0) hC dX5_standsBy_10 (by decide) ?_
    refine pg_callVRi (pc := 11) (As := [.int (nI w), .int 0]) (rest := []) hC dX5_standsBy_11 (cX5_of_c l hok (w) (0) (by omega) (by omega)) (cwV 2 hC.2.2.2.2.1 gX5_standsBy_X5_of rfl rfl rfl (by decide +kernel) ⟨Nat.le_of_ble_eq_true rfl, Nat.le_of_ble_eq_true rfl⟩) (ok_mem hok (by decide)) (ok_Mo hok) rfl rfl rfl rfl (Nat.le_of_ble_eq_true rfl) (Nat.zero_le _) (Nat.zero_le _) ?_
    refine pg_top (x' := z 6 w) (hR 6 w (show w < 10 by omega)) ?_
    refine pg_istore_n (pc := 14) (vs' := [(3, .int (z 6 w)), (0, .ref (x 11 2)), (1, .int (nI w)), (2, .int (nI p))]) hC dX5_standsBy_14 rfl (by decide) rfl ?_
    refine pg_iload_n (pc := 15) hC dX5_standsBy_15 2 rfl rfl ?_
    refine pg_iconst (pc := 16) (v := 2) hC dX5_standsBy_16 (by decide) ?_
    refine pg_idiv (pc := 17) (v := nI (w / 2)) hC dX5_standsBy_17 (by decide) (pk_div (a := w) (d := 2) (by omega) (by omega) (by omega)) ?_
    refine pg_iload_n (pc := 18) hC dX5_standsBy_18 3 rfl rfl ?_
    refine pg_iconst (pc := 19) (v := 2) hC dX5_standsBy_19 (by decide) ?_
    refine pg_idiv (pc := 20) (v := nI (p / 2)) hC dX5_standsBy_20 (by decide) (pk_div (a := p) (d := 2) (by omega) (by omega) (by omega)) ?_
    refine pg_icmp_eqN (pc := 21) hC 28 dX5_standsBy_21 (by decide) (w / 2) (p / 2) rfl rfl (by omega) (by omega) (fun c2 => ?_) (fun c2 => ?_)
    · skip
      refine pg_iload_n (pc := 28) hC dX5_standsBy_28 0 rfl rfl ?_
      refine pg_iconst (pc := 29) (v := 2) hC dX5_standsBy_29 (by decide) ?_
      refine pg_icmp_ge (pc := 30) hC 37 dX5_standsBy_30 (by decide)  (fun c3 => ?_) (fun c3 => ?_)
      · skip
        refine pg_iload_n (pc := 37) hC dX5_standsBy_37 0 rfl rfl ?_
        refine pg_iconst (pc := 38) (v := 2) hC dX5_standsBy_38 (by decide) ?_
        refine pg_isub (pc := 39) (v := (z 6 w) - 2) hC dX5_standsBy_39 rfl ?_
        exact pg_iret (pc := 40) hC dX5_standsBy_40 rfl ⟨(by unfold sSt; rw [if_neg c1, cl_nI (by omega)]; unfold sStand; obtain ⟨c, hc, ec⟩ := hG.2.2.1 w hw10; rw [if_pos c2, ec, sMax0_c hc, ← ec, if_neg (Int32.not_lt.mpr c3)]), rfl⟩
      · skip
        refine pg_iconst (pc := 33) (v := 0) hC dX5_standsBy_33 (by decide) ?_
        refine pg_goto (pc := 34) hC 40 dX5_standsBy_34 (by decide) ?_
        exact pg_iret (pc := 40) hC dX5_standsBy_40 rfl ⟨(by unfold sSt; rw [if_neg c1, cl_nI (by omega)]; unfold sStand; obtain ⟨c, hc, ec⟩ := hG.2.2.1 w hw10; rw [if_pos c2, ec, sMax0_c hc, ← ec, if_pos (Int32.not_le.mp c3)]), rfl⟩
    · skip
      refine pg_iload_n (pc := 24) hC dX5_standsBy_24 0 rfl rfl ?_
      refine pg_goto (pc := 25) hC 40 dX5_standsBy_25 (by decide) ?_
      exact pg_iret (pc := 40) hC dX5_standsBy_40 rfl ⟨(by unfold sSt; rw [if_neg c1, cl_nI (by omega)]; unfold sStand; rw [if_neg c2]), rfl⟩
  · skip
    refine pg_iconst (pc := 6) (v := 0) hC dX5_standsBy_6 (by decide) ?_
    exact pg_iret (pc := 7) hC dX5_standsBy_7 rfl ⟨(by unfold sSt; rw [if_pos c1]), rfl⟩
abbrev rmX5_weightOf : Room := { frames := 3, cells := 0, slots := 0, locals := 68 }
theorem miX5_weightOf_X5 : ∀ w ∈ wsX50, w ∈ wsX5_weightOf := fun _ h => List.mem_cons_of_mem _ (List.mem_append_right _ h)
set_option maxHeartbeats 2000000 in
set_option maxRecDepth 20000 in
theorem cX5_weightOf_c (l : Launch) {κ : pv_Kt} {L : List Nat} {f : Nat → va_E} {x : Nat → Nat → Nat} {Z : Nat → Nat → Nat → Int32} {g : Nat → Nat → Int32} (hok : pv_ok κ x L f (va_up Z 11 g)) {z : Nat → Nat → Int32} (hR : mR z (g 0)) {n : Nat} (hG : gd z n) (p e : Nat) (hp : p < 10) (he : e < 12) (wt : Int32) (hw : wt = -6 ∨ ∃ w : Nat, w < 10 ∧ wt = nI w) (mn : Int32) : pv_Mi l κ yX5_weightOf wsX5_weightOf rmX5_weightOf L f [.ref (x 11 2), .int (nI p), .int (nI e), .int wt, .int mn] 0 0 (pv_R L f (sWt z p e wt mn)) := by
  refine pv_startI (cc := cX5_weightOf) (maxL := 5) (ret := (some .int)) (by decide) rfl (Nat.le_of_ble_eq_true rfl) (fun A0 P0 E0 S0 M0 a0 B0 T0 C0 hC => ?_)
  refine pg_sub (vs' := [(0, .ref (x 11 2)), (1, .int (nI p)), (2, .int (nI e)), (3, .int wt), (4, .int mn)]) [0, 1, 2, 3, 4] rfl ?_
  refine pg_aload_n (pc := 0) hC dX5_weightOf_0 0 rfl rfl ?_
  refine pg_iload_n (pc := 1) hC dX5_weightOf_1 2 rfl rfl ?_
  refine pg_iconst (pc := 2) (v := 1) hC dX5_weightOf_2 (by decide) ?_
  refine pg_callVRi (pc := 3) (As := [.int (nI e), .int 1]) (rest := []) hC dX5_weightOf_3 (cX5_ofExcuse_c l hok (e) (1) (by omega) (by omega)) (cwV 2 hC.2.2.2.2.1 gX5_weightOf_X5_ofExcuse rfl rfl rfl (by decide +kernel) ⟨Nat.le_of_ble_eq_true rfl, Nat.le_of_ble_eq_true rfl⟩) (ok_mem hok (by decide)) (ok_Mo hok) rfl rfl rfl rfl (Nat.le_of_ble_eq_true rfl) (Nat.zero_le _) (Nat.zero_le _) ?_
  refine pg_top (x' := z 3 e) (hR 3 e (show e < 12 by omega)) ?_
  refine pg_aload_n (pc := 6) hC dX5_weightOf_6 0 rfl rfl ?_
  refine pg_iload_n (pc := 7) hC dX5_weightOf_7 1 rfl rfl ?_
  refine pg_iload_n (pc := 8) hC dX5_weightOf_8 2 rfl rfl ?_
  refine pg_callVRi (pc := 9) (As := [.int (nI p), .int (nI e)]) (rest := [.int (z 3 e)]) hC dX5_weightOf_9 (cX5_noveltyOf_c l hok hR (p) (e) (by omega) (by omega)) (cwV 2 hC.2.2.2.2.1 gX5_weightOf_X5_noveltyOf rfl rfl rfl (by decide +kernel) ⟨Nat.le_of_ble_eq_true rfl, Nat.le_of_ble_eq_true rfl⟩) (ok_mem hok (by decide)) (ok_Mo hok) rfl rfl rfl rfl (Nat.le_of_ble_eq_true rfl) (Nat.zero_le _) (Nat.zero_le _) ?_
  refine pg_imul (pc := 12) (v := (z 3 e) * (sNov z (p) (e))) hC dX5_weightOf_12 rfl ?_
  refine pg_bipush (pc := 13) (v := 100) hC dX5_weightOf_13 (by decide) ?_
  refine pg_idiv (pc := 15) (v := ((z 3 e) * (sNov z (p) (e))) / 100) hC dX5_weightOf_15 (by decide) rfl ?_
  refine pg_aload_n (pc := 16) hC dX5_weightOf_16 0 rfl rfl ?_
  refine pgM_geta (pc := 17) hC dX5_weightOf_17 0 (List.mem_of_getElem? (i := 1) rfl) miX5_weightOf_X5 hok (by decide) ?_
  refine pg_iconst (pc := 20) (v := 4) hC dX5_weightOf_20 (by decide) ?_
  refine pgM_iald (pc := 21) (v := z 0 4) hC dX5_weightOf_21 0 (4) hok (by decide) (by decide) (by decide) rfl (show 4 < 234 by omega) (hR 0 4 (show 4 < 5 by decide)) ?_
  refine pg_aload_n (pc := 22) hC dX5_weightOf_22 0 rfl rfl ?_
  refine pg_iload_n (pc := 23) hC dX5_weightOf_23 1 rfl rfl ?_
  refine pg_callVRi (pc := 24) (As := [.int (nI p)]) (rest := [.int (z 0 4), .int (((z 3 e) * (sNov z (p) (e))) / 100)]) hC dX5_weightOf_24 (cX5_grudge_c l hok hR (p) (by omega)) (cwV 1 hC.2.2.2.2.1 gX5_weightOf_X5_grudge rfl rfl rfl (by decide +kernel) ⟨Nat.le_of_ble_eq_true rfl, Nat.le_of_ble_eq_true rfl⟩) (ok_mem hok (by decide)) (ok_Mo hok) rfl rfl rfl rfl (Nat.le_of_ble_eq_true rfl) (Nat.zero_le _) (Nat.zero_le _) ?_
  refine pg_imul (pc := 27) (v := (z 0 4) * (z 12 (p / 2))) hC dX5_weightOf_27 rfl ?_
  refine pg_isub (pc := 28) (v := (((z 3 e) * (sNov z (p) (e))) / 100) - ((z 0 4) * (z 12 (p / 2)))) hC dX5_weightOf_28 rfl ?_
  refine pg_iload (pc := 29) hC dX5_weightOf_29 4 rfl ?_
  refine pg_bipush (pc := 31) (v := 10) hC dX5_weightOf_31 (by decide) ?_
  refine pg_idiv (pc := 33) (v := mn / 10) hC dX5_weightOf_33 (by decide) rfl ?_
  refine pg_isub (pc := 34) (v := ((((z 3 e) * (sNov z (p) (e))) / 100) - ((z 0 4) * (z 12 (p / 2)))) - (mn / 10)) hC dX5_weightOf_34 rfl ?_
  refine pg_aload_n (pc := 35) hC dX5_weightOf_35 0 rfl rfl ?_
  refine pg_iload_n (pc := 36) hC dX5_weightOf_36 3 rfl rfl ?_
  refine pg_iload_n (pc := 37) hC dX5_weightOf_37 1 rfl rfl ?_
  refine pg_callVRi (pc := 38) (As := [.int wt, .int (nI p)]) (rest := [.int (((((z 3 e) * (sNov z (p) (e))) / 100) - ((z 0 4) * (z 12 (p / 2)))) - (mn / 10))]) hC dX5_weightOf_38 (cX5_standsBy_c l hok hR hG wt hw (p) (by omega)) (cwV 2 hC.2.2.2.2.1 gX5_weightOf_X5_standsBy rfl rfl rfl (by decide +kernel) ⟨Nat.le_of_ble_eq_true rfl, Nat.le_of_ble_eq_true rfl⟩) (ok_mem hok (by decide)) (ok_Mo hok) rfl rfl rfl rfl (Nat.le_of_ble_eq_true rfl) (Nat.zero_le _) (Nat.zero_le _) ?_
  refine pg_iadd (pc := 41) (v := (((((z 3 e) * (sNov z (p) (e))) / 100) - ((z 0 4) * (z 12 (p / 2)))) - (mn / 10)) + (sSt z wt (p))) hC dX5_weightOf_41 rfl ?_
  exact pg_iret (pc := 42) hC dX5_weightOf_42 rfl ⟨(sWt_st z p e wt mn), rfl⟩
abbrev rmX5_reason : Room := { frames := 4, cells := 0, slots := 0, locals := 92 }
theorem miX5_reason_X5 : ∀ w ∈ wsX50, w ∈ wsX5_reason := fun _ h => List.mem_cons_of_mem _ (List.mem_append_right _ h)
set_option maxHeartbeats 2000000 in
set_option maxRecDepth 20000 in
theorem cX5_reason_c (l : Launch) {κ : pv_Kt} {L : List Nat} {f : Nat → va_E} {x : Nat → Nat → Nat} {Z : Nat → Nat → Nat → Int32} {g : Nat → Nat → Int32} (hok : pv_ok κ x L f (va_up Z 11 g)) {z : Nat → Nat → Int32} (hR : mR z (g 0)) {n : Nat} (hG : gd z n) (p e : Nat) (hp : p < 10) (he : e < 12) (wt : Int32) (hw : wt = -6 ∨ ∃ w : Nat, w < 10 ∧ wt = nI w) (mn : Int32) : pv_Mi l κ yX5_reason wsX5_reason rmX5_reason L f [.ref (x 11 2), .int (nI p), .int (nI e), .int wt, .int mn] 0 0 (pv_R L f (sReason z p e wt mn)) := by
  refine pv_startI (cc := cX5_reason) (maxL := 5) (ret := (some .int)) (by decide) rfl (Nat.le_of_ble_eq_true rfl) (fun A0 P0 E0 S0 M0 a0 B0 T0 C0 hC => ?_)
  refine pg_sub (vs' := [(0, .ref (x 11 2)), (1, .int (nI p)), (2, .int (nI e)), (3, .int wt), (4, .int mn)]) [0, 1, 2, 3, 4] rfl ?_
  refine pg_aload_n (pc := 0) hC dX5_reason_0 0 rfl rfl ?_
  refine pg_iload_n (pc := 1) hC dX5_reason_1 1 rfl rfl ?_
  refine pg_iload_n (pc := 2) hC dX5_reason_2 2 rfl rfl ?_
  refine pg_callVRi (pc := 3) (As := [.int (nI p), .int (nI e)]) (rest := []) hC dX5_reason_3 (cX5_uses_c l hok hR (p) (e) (by omega) (by omega)) (cwV 2 hC.2.2.2.2.1 gX5_reason_X5_uses rfl rfl rfl (by decide +kernel) ⟨Nat.le_of_ble_eq_true rfl, Nat.le_of_ble_eq_true rfl⟩) (ok_mem hok (by decide)) (ok_Mo hok) rfl rfl rfl rfl (Nat.le_of_ble_eq_true rfl) (Nat.zero_le _) (Nat.zero_le _) ?_
  refine pg_aload_n (pc := 6) hC dX5_reason_6 0 rfl rfl ?_
  refine pgM_geta (pc := 7) hC dX5_reason_7 0 (List.mem_of_getElem? (i := 1) rfl) miX5_reason_X5 hok (by decide) ?_
  refine pg_iconst (pc := 10) (v := 2) hC dX5_reason_10 (by decide) ?_
  refine pgM_iald (pc := 11) (v := z 0 2) hC dX5_reason_11 0 (2) hok (by decide) (by decide) (by decide) rfl (show 2 < 234 by omega) (hR 0 2 (show 2 < 5 by decide)) ?_
  refine pg_icmp_lt (pc := 12) hC 17 dX5_reason_12 (by decide)  (fun c1 => ?_) (fun c1 => ?_)
  · skip
    refine pg_aload_n (pc := 17) hC dX5_reason_17 0 rfl rfl ?_
    refine pg_iload_n (pc := 18) hC dX5_reason_18 1 rfl rfl ?_
    refine pg_iconst (pc := 19) (v := 4) hC dX5_reason_19 (by decide) ?_
    refine pg_callVRi (pc := 20) (As := [.int (nI p), .int 4]) (rest := []) hC dX5_reason_20 (cX5_of_c l hok (p) (4) (by omega) (by omega)) (cwV 2 hC.2.2.2.2.1 gX5_reason_X5_of rfl rfl rfl (by decide +kernel) ⟨Nat.le_of_ble_eq_true rfl, Nat.le_of_ble_eq_true rfl⟩) (ok_mem hok (by decide)) (ok_Mo hok) rfl rfl rfl rfl (Nat.le_of_ble_eq_true rfl) (Nat.zero_le _) (Nat.zero_le _) ?_
    refine pg_top (x' := z 11 p) (hR 11 p (show p < 10 by omega)) ?_
    refine pg_aload_n (pc := 23) hC dX5_reason_23 0 rfl rfl ?_
    refine pg_iload_n (pc := 24) hC dX5_reason_24 2 rfl rfl ?_
    refine pg_iconst (pc := 25) (v := 0) hC dX5_reason_25 (by decide) ?_
    refine pg_callVRi (pc := 26) (As := [.int (nI e), .int 0]) (rest := [.int (z 11 p)]) hC dX5_reason_26 (cX5_ofExcuse_c l hok (e) (0) (by omega) (by omega)) (cwV 2 hC.2.2.2.2.1 gX5_reason_X5_ofExcuse rfl rfl rfl (by decide +kernel) ⟨Nat.le_of_ble_eq_true rfl, Nat.le_of_ble_eq_true rfl⟩) (ok_mem hok (by decide)) (ok_Mo hok) rfl rfl rfl rfl (Nat.le_of_ble_eq_true rfl) (Nat.zero_le _) (Nat.zero_le _) ?_
    refine pg_top (x' := z 2 e) (hR 2 e (show e < 12 by omega)) ?_
    refine pg_icmp_ne (pc := 29) hC 34 dX5_reason_29 (by decide)  (fun c2 => ?_) (fun c2 => ?_)
    · skip
      refine pg_iload_n (pc := 34) hC dX5_reason_34 3 rfl rfl ?_
      refine pg_bipush (pc := 35) (v := (-6)) hC dX5_reason_35 (by decide) ?_
      refine pg_icmp_eq (pc := 37) hC 51 dX5_reason_37 (by decide)  (fun c3 => ?_) (fun c3 => ?_)
      · skip
        subst c3
        refine pg_aload_n (pc := 51) hC dX5_reason_51 0 rfl rfl ?_
        refine pg_iload_n (pc := 52) hC dX5_reason_52 1 rfl rfl ?_
        refine pg_iload_n (pc := 53) hC dX5_reason_53 2 rfl rfl ?_
        refine pg_iload_n (pc := 54) hC dX5_reason_54 3 rfl rfl ?_
        refine pg_iload (pc := 55) hC dX5_reason_55 4 rfl ?_
        refine pg_callVRi (pc := 57) (As := [.int (nI p), .int (nI e), .int (-6), .int mn]) (rest := []) hC dX5_reason_57 (cX5_weightOf_c l hok hR hG (p) (e) (by omega) (by omega) (-6) (Or.inl rfl) mn) (cwV 4 hC.2.2.2.2.1 gX5_reason_X5_weightOf rfl rfl rfl (by decide +kernel) ⟨Nat.le_of_ble_eq_true rfl, Nat.le_of_ble_eq_true rfl⟩) (ok_mem hok (by decide)) (ok_Mo hok) rfl rfl rfl rfl (Nat.le_of_ble_eq_true rfl) (Nat.zero_le _) (Nat.zero_le _) ?_
        refine pg_aload_n (pc := 60) hC dX5_reason_60 0 rfl rfl ?_
        refine pgM_geta (pc := 61) hC dX5_reason_61 0 (List.mem_of_getElem? (i := 1) rfl) miX5_reason_X5 hok (by decide) ?_
        refine pg_iconst (pc := 64) (v := 0) hC dX5_reason_64 (by decide) ?_
        refine pgM_iald (pc := 65) (v := z 0 0) hC dX5_reason_65 0 (0) hok (by decide) (by decide) (by decide) rfl (show 0 < 234 by omega) (hR 0 0 (show 0 < 5 by decide)) ?_
        refine pg_icmp_ge (pc := 66) hC 73 dX5_reason_66 (by decide)  (fun c4 => ?_) (fun c4 => ?_)
        · skip
          refine pg_iconst (pc := 73) (v := 0) hC dX5_reason_73 (by decide) ?_
          exact pg_iret (pc := 74) hC dX5_reason_74 rfl ⟨(by simp [sReason, c1, c2, c4]), rfl⟩
        · skip
          refine pg_iconst (pc := 69) (v := 4) hC dX5_reason_69 (by decide) ?_
          refine pg_goto (pc := 70) hC 74 dX5_reason_70 (by decide) ?_
          exact pg_iret (pc := 74) hC dX5_reason_74 rfl ⟨(by simp [sReason, c1, c2, c4]), rfl⟩
      · skip
        obtain ⟨w, hw10, rfl⟩ := hw.resolve_left c3
        refine pg_aload_n (pc := 40) hC dX5_reason_40 0 rfl rfl ?_
        refine pg_iload_n (pc := 41) hC dX5_reason_41 3 rfl rfl ?_
        refine pg_iconst (pc := 42) (v := 0) hC dX5_reason_42 (by decide) ?_
        refine pg_callVRi (pc := 43) (As := [.int (nI w), .int 0]) (rest := []) hC dX5_reason_43 (cX5_of_c l hok (w) (0) (by omega) (by omega)) (cwV 2 hC.2.2.2.2.1 gX5_reason_X5_of rfl rfl rfl (by decide +kernel) ⟨Nat.le_of_ble_eq_true rfl, Nat.le_of_ble_eq_true rfl⟩) (ok_mem hok (by decide)) (ok_Mo hok) rfl rfl rfl rfl (Nat.le_of_ble_eq_true rfl) (Nat.zero_le _) (Nat.zero_le _) ?_
        refine pg_top (x' := z 6 w) (hR 6 w (show w < 10 by omega)) ?_
        refine pg_if_ne (pc := 46) hC 51 dX5_reason_46 (by decide)  (fun c5 => ?_) (fun c5 => ?_)
        · skip
          refine pg_aload_n (pc := 51) hC dX5_reason_51 0 rfl rfl ?_
          refine pg_iload_n (pc := 52) hC dX5_reason_52 1 rfl rfl ?_
          refine pg_iload_n (pc := 53) hC dX5_reason_53 2 rfl rfl ?_
          refine pg_iload_n (pc := 54) hC dX5_reason_54 3 rfl rfl ?_
          refine pg_iload (pc := 55) hC dX5_reason_55 4 rfl ?_
          refine pg_callVRi (pc := 57) (As := [.int (nI p), .int (nI e), .int (nI w), .int mn]) (rest := []) hC dX5_reason_57 (cX5_weightOf_c l hok hR hG (p) (e) (by omega) (by omega) (nI w) (Or.inr ⟨w, by omega, rfl⟩) mn) (cwV 4 hC.2.2.2.2.1 gX5_reason_X5_weightOf rfl rfl rfl (by decide +kernel) ⟨Nat.le_of_ble_eq_true rfl, Nat.le_of_ble_eq_true rfl⟩) (ok_mem hok (by decide)) (ok_Mo hok) rfl rfl rfl rfl (Nat.le_of_ble_eq_true rfl) (Nat.zero_le _) (Nat.zero_le _) ?_
          refine pg_aload_n (pc := 60) hC dX5_reason_60 0 rfl rfl ?_
          refine pgM_geta (pc := 61) hC dX5_reason_61 0 (List.mem_of_getElem? (i := 1) rfl) miX5_reason_X5 hok (by decide) ?_
          refine pg_iconst (pc := 64) (v := 0) hC dX5_reason_64 (by decide) ?_
          refine pgM_iald (pc := 65) (v := z 0 0) hC dX5_reason_65 0 (0) hok (by decide) (by decide) (by decide) rfl (show 0 < 234 by omega) (hR 0 0 (show 0 < 5 by decide)) ?_
          refine pg_icmp_ge (pc := 66) hC 73 dX5_reason_66 (by decide)  (fun c6 => ?_) (fun c6 => ?_)
          · skip
            refine pg_iconst (pc := 73) (v := 0) hC dX5_reason_73 (by decide) ?_
            exact pg_iret (pc := 74) hC dX5_reason_74 rfl ⟨(by simp [sReason, cl_nI (show w < 2 ^ 31 by omega), c1, c2, c3, c5, c6]), rfl⟩
          · skip
            refine pg_iconst (pc := 69) (v := 4) hC dX5_reason_69 (by decide) ?_
            refine pg_goto (pc := 70) hC 74 dX5_reason_70 (by decide) ?_
            exact pg_iret (pc := 74) hC dX5_reason_74 rfl ⟨(by simp [sReason, cl_nI (show w < 2 ^ 31 by omega), c1, c2, c3, c5, c6]), rfl⟩
        · skip
          refine pg_iconst (pc := 49) (v := 3) hC dX5_reason_49 (by decide) ?_
          exact pg_iret (pc := 50) hC dX5_reason_50 rfl ⟨(by simp [sReason, cl_nI (show w < 2 ^ 31 by omega), c1, c2, c3, c5]), rfl⟩
    · skip
      refine pg_iconst (pc := 32) (v := 2) hC dX5_reason_32 (by decide) ?_
      exact pg_iret (pc := 33) hC dX5_reason_33 rfl ⟨(by simp [sReason, c1, c2]), rfl⟩
  · skip
    refine pg_iconst (pc := 15) (v := 1) hC dX5_reason_15 (by decide) ?_
    exact pg_iret (pc := 16) hC dX5_reason_16 rfl ⟨(by simp [sReason, c1]), rfl⟩
abbrev rmX5_isValue : Room := { frames := 1, cells := 0, slots := 0, locals := 22 }
set_option maxHeartbeats 2000000 in
set_option maxRecDepth 20000 in
theorem cX5_isValue_c (l : Launch) {κ : pv_Kt} {L : List Nat} {f : Nat → va_E} (st v : Int32) : pv_Mi l κ yX5_isValue wsX5_isValue rmX5_isValue L f [.int st, .int v] 0 0 (pv_R L f (mVal st v)) := by
  refine pv_startI (cc := cX5_isValue) (maxL := 2) (ret := (some .boolean)) (by decide) rfl (Nat.le_of_ble_eq_true rfl) (fun A0 P0 E0 S0 M0 a0 B0 T0 C0 hC => ?_)
  refine pg_sub (vs' := [(0, .int st), (1, .int v)]) [0, 1] rfl ?_
  refine pg_iload_n (pc := 0) hC dX5_isValue_0 0 rfl rfl ?_
  rcases tab_cases st 0 4 (by omega) with ⟨j, hjl, hj, hxj⟩ | c1
  · skip
    rcases (show j = 0 ∨ j = 1 ∨ j = 2 ∨ j = 3 ∨ j = 4 by omega) with rfl | rfl | rfl | rfl | rfl
    · skip
      have c2 : st = 0 := hxj
      refine pg_tabIn (pc := 1) hC 36 dX5_isValue_1 (by rw [c2]; decide) (by rw [c2]; decide) (by rw [c2]; rfl) (by decide) ?_
      subst c2
      refine pg_iload_n (pc := 36) hC dX5_isValue_36 1 rfl rfl ?_
      refine pg_iconst (pc := 37) (v := 1) hC dX5_isValue_37 (by decide) ?_
      refine pg_bipush (pc := 38) (v := 99) hC dX5_isValue_38 (by decide) ?_
      refine pg_callSRi (pc := 40) (As := [.int v, .int 1, .int 99]) (rest := []) hC dX5_isValue_40 (cX5_in_c l v 1 99) (va_cwS 3 hC.2.2.2.2.1 gX5_isValue_X5_in rfl rfl rfl (by decide +kernel) ⟨Nat.le_of_ble_eq_true rfl, Nat.le_of_ble_eq_true rfl⟩) rfl rfl (Nat.le_of_ble_eq_true rfl) (Nat.zero_le _) (Nat.zero_le _) ?_
      exact pg_zret (pc := 43) hC dX5_isValue_43 rfl (bW_z _ _ _) ⟨(by unfold mVal; rw [if_neg (by decide)]; rfl), rfl⟩
    · skip
      have c3 : st = 1 := hxj
      refine pg_tabIn (pc := 1) hC 44 dX5_isValue_1 (by rw [c3]; decide) (by rw [c3]; decide) (by rw [c3]; rfl) (by decide) ?_
      subst c3
      refine pg_iload_n (pc := 44) hC dX5_isValue_44 1 rfl rfl ?_
      refine pg_iconst (pc := 45) (v := 0) hC dX5_isValue_45 (by decide) ?_
      refine pg_bipush (pc := 46) (v := 50) hC dX5_isValue_46 (by decide) ?_
      refine pg_callSRi (pc := 48) (As := [.int v, .int 0, .int 50]) (rest := []) hC dX5_isValue_48 (cX5_in_c l v 0 50) (va_cwS 3 hC.2.2.2.2.1 gX5_isValue_X5_in rfl rfl rfl (by decide +kernel) ⟨Nat.le_of_ble_eq_true rfl, Nat.le_of_ble_eq_true rfl⟩) rfl rfl (Nat.le_of_ble_eq_true rfl) (Nat.zero_le _) (Nat.zero_le _) ?_
      exact pg_zret (pc := 51) hC dX5_isValue_51 rfl (bW_z _ _ _) ⟨(by unfold mVal; rw [if_neg (by decide)]; rfl), rfl⟩
    · skip
      have c4 : st = 2 := hxj
      refine pg_tabIn (pc := 1) hC 52 dX5_isValue_1 (by rw [c4]; decide) (by rw [c4]; decide) (by rw [c4]; rfl) (by decide) ?_
      subst c4
      refine pg_iload_n (pc := 52) hC dX5_isValue_52 1 rfl rfl ?_
      refine pg_iconst (pc := 53) (v := 1) hC dX5_isValue_53 (by decide) ?_
      refine pg_bipush (pc := 54) (v := 9) hC dX5_isValue_54 (by decide) ?_
      refine pg_callSRi (pc := 56) (As := [.int v, .int 1, .int 9]) (rest := []) hC dX5_isValue_56 (cX5_in_c l v 1 9) (va_cwS 3 hC.2.2.2.2.1 gX5_isValue_X5_in rfl rfl rfl (by decide +kernel) ⟨Nat.le_of_ble_eq_true rfl, Nat.le_of_ble_eq_true rfl⟩) rfl rfl (Nat.le_of_ble_eq_true rfl) (Nat.zero_le _) (Nat.zero_le _) ?_
      exact pg_zret (pc := 59) hC dX5_isValue_59 rfl (bW_z _ _ _) ⟨(by unfold mVal; rw [if_neg (by decide)]; rfl), rfl⟩
    · skip
      have c5 : st = 3 := hxj
      refine pg_tabIn (pc := 1) hC 60 dX5_isValue_1 (by rw [c5]; decide) (by rw [c5]; decide) (by rw [c5]; rfl) (by decide) ?_
      subst c5
      refine pg_iload_n (pc := 60) hC dX5_isValue_60 1 rfl rfl ?_
      refine pg_iconst (pc := 61) (v := 1) hC dX5_isValue_61 (by decide) ?_
      refine pg_bipush (pc := 62) (v := 60) hC dX5_isValue_62 (by decide) ?_
      refine pg_callSRi (pc := 64) (As := [.int v, .int 1, .int 60]) (rest := []) hC dX5_isValue_64 (cX5_in_c l v 1 60) (va_cwS 3 hC.2.2.2.2.1 gX5_isValue_X5_in rfl rfl rfl (by decide +kernel) ⟨Nat.le_of_ble_eq_true rfl, Nat.le_of_ble_eq_true rfl⟩) rfl rfl (Nat.le_of_ble_eq_true rfl) (Nat.zero_le _) (Nat.zero_le _) ?_
      exact pg_zret (pc := 67) hC dX5_isValue_67 rfl (bW_z _ _ _) ⟨(by unfold mVal; rw [if_neg (by decide)]; rfl), rfl⟩
    · skip
      have c6 : st = 4 := hxj
      refine pg_tabIn (pc := 1) hC 68 dX5_isValue_1 (by rw [c6]; decide) (by rw [c6]; decide) (by rw [c6]; rfl) (by decide) ?_
      subst c6
      refine pg_iload_n (pc := 68) hC dX5_isValue_68 1 rfl rfl ?_
      refine pg_iconst (pc := 69) (v := 0) hC dX5_isValue_69 (by decide) ?_
      refine pg_bipush (pc := 70) (v := 20) hC dX5_isValue_70 (by decide) ?_
      refine pg_callSRi (pc := 72) (As := [.int v, .int 0, .int 20]) (rest := []) hC dX5_isValue_72 (cX5_in_c l v 0 20) (va_cwS 3 hC.2.2.2.2.1 gX5_isValue_X5_in rfl rfl rfl (by decide +kernel) ⟨Nat.le_of_ble_eq_true rfl, Nat.le_of_ble_eq_true rfl⟩) rfl rfl (Nat.le_of_ble_eq_true rfl) (Nat.zero_le _) (Nat.zero_le _) ?_
      exact pg_zret (pc := 75) hC dX5_isValue_75 rfl (bW_z _ _ _) ⟨(by unfold mVal; rw [if_neg (by decide)]; rfl), rfl⟩
  · skip
    refine pg_tabOut (pc := 1) hC 76 dX5_isValue_1 c1 (by decide) ?_
    have n7 : ¬ st = 0 := fun q => by rw [q] at c1; revert c1; decide
    have n8 : ¬ st = 1 := fun q => by rw [q] at c1; revert c1; decide
    have n9 : ¬ st = 2 := fun q => by rw [q] at c1; revert c1; decide
    have n10 : ¬ st = 3 := fun q => by rw [q] at c1; revert c1; decide
    have n11 : ¬ st = 4 := fun q => by rw [q] at c1; revert c1; decide
    refine pg_iconst (pc := 76) (v := 0) hC dX5_isValue_76 (by decide) ?_
    exact pg_zret (pc := 77) hC dX5_isValue_77 rfl rfl ⟨(by unfold mVal; rw [if_pos (bW_out5 n7 n8 n9 n10 n11)]), rfl⟩
abbrev rmX5_whyNotOffer : Room := { frames := 2, cells := 0, slots := 0, locals := 43 }
set_option maxHeartbeats 2000000 in
set_option maxRecDepth 20000 in
theorem cX5_whyNotOffer_c (l : Launch) {κ : pv_Kt} {L : List Nat} {f : Nat → va_E} {x : Nat → Nat → Nat} {Z : Nat → Nat → Nat → Int32} {g : Nat → Nat → Int32} (hok : pv_ok κ x L f (va_up Z 11 g)) {z : Nat → Nat → Int32} (hR : mR z (g 0)) {n : Nat} (hG : gd z n) (pp ee wt mn : Int32) : pv_Mi l κ yX5_whyNotOffer wsX5_whyNotOffer rmX5_whyNotOffer L f [.ref (x 11 2), .int pp, .int ee, .int wt, .int mn] 0 0 (pv_R L f (tErr z pp ee wt mn)) := by
  refine pv_startI (cc := cX5_whyNotOffer) (maxL := 5) (ret := (some .int)) (by decide) rfl (Nat.le_of_ble_eq_true rfl) (fun A0 P0 E0 S0 M0 a0 B0 T0 C0 hC => ?_)
  refine pg_sub (vs' := [(0, .ref (x 11 2)), (1, .int pp), (2, .int ee), (3, .int wt), (4, .int mn)]) [0, 1, 2, 3, 4] rfl ?_
  have hn12 := hG.n12
  refine pg_iload_n (pc := 0) hC dX5_whyNotOffer_0 1 rfl rfl ?_
  refine pg_callSRi (pc := 1) (As := [.int pp]) (rest := []) hC dX5_whyNotOffer_1 (cX5_isPupil_c l pp) (va_cwS 1 hC.2.2.2.2.1 gX5_whyNotOffer_X5_isPupil rfl rfl rfl (by decide +kernel) ⟨Nat.le_of_ble_eq_true rfl, Nat.le_of_ble_eq_true rfl⟩) rfl rfl (Nat.le_of_ble_eq_true rfl) (Nat.zero_le _) (Nat.zero_le _) ?_
  refine pg_if_eq (pc := 4) hC 28 dX5_whyNotOffer_4 (by decide)  (fun c1 => ?_) (fun c1 => ?_)
  · skip
    refine pg_iconst (pc := 28) (v := (-1)) hC dX5_whyNotOffer_28 (by decide) ?_
    exact pg_iret (pc := 29) hC dX5_whyNotOffer_29 rfl ⟨(by first | rfl | (simp [tErr, c1]; done) | (simp_all [tErr]; done)), rfl⟩
  · skip
    refine pg_aload_n (pc := 7) hC dX5_whyNotOffer_7 0 rfl rfl ?_
    refine pg_iload_n (pc := 8) hC dX5_whyNotOffer_8 2 rfl rfl ?_
    refine pg_callVRi (pc := 9) (As := [.int ee]) (rest := []) hC dX5_whyNotOffer_9 (cX5_isExcuse_c l hok hR hG ee) (cwV 1 hC.2.2.2.2.1 gX5_whyNotOffer_X5_isExcuse rfl rfl rfl (by decide +kernel) ⟨Nat.le_of_ble_eq_true rfl, Nat.le_of_ble_eq_true rfl⟩) (ok_mem hok (by decide)) (ok_Mo hok) rfl rfl rfl rfl (Nat.le_of_ble_eq_true rfl) (Nat.zero_le _) (Nat.zero_le _) ?_
    refine pg_if_eq (pc := 12) hC 28 dX5_whyNotOffer_12 (by decide)  (fun c2 => ?_) (fun c2 => ?_)
    · skip
      refine pg_iconst (pc := 28) (v := (-1)) hC dX5_whyNotOffer_28 (by decide) ?_
      exact pg_iret (pc := 29) hC dX5_whyNotOffer_29 rfl ⟨(by first | rfl | (simp [tErr, c1, c2]; done) | (simp_all [tErr]; done)), rfl⟩
    · skip
      refine pg_iload_n (pc := 15) hC dX5_whyNotOffer_15 3 rfl rfl ?_
      refine pg_bipush (pc := 16) (v := (-6)) hC dX5_whyNotOffer_16 (by decide) ?_
      refine pg_icmp_eq (pc := 18) hC 30 dX5_whyNotOffer_18 (by decide)  (fun c3 => ?_) (fun c3 => ?_)
      · skip
        refine pg_iload (pc := 30) hC dX5_whyNotOffer_30 4 rfl ?_
        refine pg_iconst (pc := 32) (v := 1) hC dX5_whyNotOffer_32 (by decide) ?_
        refine pg_bipush (pc := 33) (v := 99) hC dX5_whyNotOffer_33 (by decide) ?_
        refine pg_callSRi (pc := 35) (As := [.int mn, .int 1, .int 99]) (rest := []) hC dX5_whyNotOffer_35 (cX5_in_c l mn 1 99) (va_cwS 3 hC.2.2.2.2.1 gX5_whyNotOffer_X5_in rfl rfl rfl (by decide +kernel) ⟨Nat.le_of_ble_eq_true rfl, Nat.le_of_ble_eq_true rfl⟩) rfl rfl (Nat.le_of_ble_eq_true rfl) (Nat.zero_le _) (Nat.zero_le _) ?_
        refine pg_if_eq (pc := 38) hC 50 dX5_whyNotOffer_38 (by decide)  (fun c4 => ?_) (fun c4 => ?_)
        · skip
          refine pg_bipush (pc := 50) (v := (-2)) hC dX5_whyNotOffer_50 (by decide) ?_
          exact pg_iret (pc := 52) hC dX5_whyNotOffer_52 rfl ⟨(by first | rfl | (simp [tErr, c1, c2, c3, c4]; done) | (simp_all [tErr]; done)), rfl⟩
        · skip
          refine pg_iload_n (pc := 41) hC dX5_whyNotOffer_41 3 rfl rfl ?_
          refine pg_iload_n (pc := 42) hC dX5_whyNotOffer_42 1 rfl rfl ?_
          refine pg_icmp_eq (pc := 43) hC 50 dX5_whyNotOffer_43 (by decide)  (fun c5 => ?_) (fun c5 => ?_)
          · skip
            refine pg_bipush (pc := 50) (v := (-2)) hC dX5_whyNotOffer_50 (by decide) ?_
            exact pg_iret (pc := 52) hC dX5_whyNotOffer_52 rfl ⟨(by first | rfl | (simp [tErr, c1, c2, c3, c4, c5]; done) | (simp_all [tErr]; done)), rfl⟩
          · skip
            refine pg_iconst (pc := 46) (v := 0) hC dX5_whyNotOffer_46 (by decide) ?_
            refine pg_goto (pc := 47) hC 52 dX5_whyNotOffer_47 (by decide) ?_
            exact pg_iret (pc := 52) hC dX5_whyNotOffer_52 rfl ⟨(by first | rfl | (simp [tErr, c1, c2, c3, c4, c5]; done) | (simp_all [tErr]; done)), rfl⟩
      · skip
        refine pg_iload_n (pc := 21) hC dX5_whyNotOffer_21 3 rfl rfl ?_
        refine pg_callSRi (pc := 22) (As := [.int wt]) (rest := []) hC dX5_whyNotOffer_22 (cX5_isPupil_c l wt) (va_cwS 1 hC.2.2.2.2.1 gX5_whyNotOffer_X5_isPupil rfl rfl rfl (by decide +kernel) ⟨Nat.le_of_ble_eq_true rfl, Nat.le_of_ble_eq_true rfl⟩) rfl rfl (Nat.le_of_ble_eq_true rfl) (Nat.zero_le _) (Nat.zero_le _) ?_
        refine pg_if_ne (pc := 25) hC 30 dX5_whyNotOffer_25 (by decide)  (fun c6 => ?_) (fun c6 => ?_)
        · skip
          refine pg_iload (pc := 30) hC dX5_whyNotOffer_30 4 rfl ?_
          refine pg_iconst (pc := 32) (v := 1) hC dX5_whyNotOffer_32 (by decide) ?_
          refine pg_bipush (pc := 33) (v := 99) hC dX5_whyNotOffer_33 (by decide) ?_
          refine pg_callSRi (pc := 35) (As := [.int mn, .int 1, .int 99]) (rest := []) hC dX5_whyNotOffer_35 (cX5_in_c l mn 1 99) (va_cwS 3 hC.2.2.2.2.1 gX5_whyNotOffer_X5_in rfl rfl rfl (by decide +kernel) ⟨Nat.le_of_ble_eq_true rfl, Nat.le_of_ble_eq_true rfl⟩) rfl rfl (Nat.le_of_ble_eq_true rfl) (Nat.zero_le _) (Nat.zero_le _) ?_
          refine pg_if_eq (pc := 38) hC 50 dX5_whyNotOffer_38 (by decide)  (fun c7 => ?_) (fun c7 => ?_)
          · skip
            refine pg_bipush (pc := 50) (v := (-2)) hC dX5_whyNotOffer_50 (by decide) ?_
            exact pg_iret (pc := 52) hC dX5_whyNotOffer_52 rfl ⟨(by first | rfl | (simp [tErr, c1, c2, c3, c6, c7]; done) | (simp_all [tErr]; done)), rfl⟩
          · skip
            refine pg_iload_n (pc := 41) hC dX5_whyNotOffer_41 3 rfl rfl ?_
            refine pg_iload_n (pc := 42) hC dX5_whyNotOffer_42 1 rfl rfl ?_
            refine pg_icmp_eq (pc := 43) hC 50 dX5_whyNotOffer_43 (by decide)  (fun c8 => ?_) (fun c8 => ?_)
            · skip
              refine pg_bipush (pc := 50) (v := (-2)) hC dX5_whyNotOffer_50 (by decide) ?_
              exact pg_iret (pc := 52) hC dX5_whyNotOffer_52 rfl ⟨(by first | rfl | (simp [tErr, c1, c2, c3, c6, c7, c8]; done) | (simp_all [tErr]; done)), rfl⟩
            · skip
              refine pg_iconst (pc := 46) (v := 0) hC dX5_whyNotOffer_46 (by decide) ?_
              refine pg_goto (pc := 47) hC 52 dX5_whyNotOffer_47 (by decide) ?_
              exact pg_iret (pc := 52) hC dX5_whyNotOffer_52 rfl ⟨(by first | rfl | (simp [tErr, c1, c2, c3, c6, c7, c8]; done) | (simp_all [tErr]; done)), rfl⟩
        · skip
          refine pg_iconst (pc := 28) (v := (-1)) hC dX5_whyNotOffer_28 (by decide) ?_
          exact pg_iret (pc := 29) hC dX5_whyNotOffer_29 rfl ⟨(by first | rfl | (simp [tErr, c1, c2, c3, c6]; done) | (simp_all [tErr]; done)), rfl⟩
