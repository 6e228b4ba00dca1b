abbrev rmX4_count : Room := { frames := 4, cells := 0, slots := 0, locals := 90 }
theorem miX4_count_X0 : ∀ w ∈ wsX00, w ∈ wsX4_count := fun _ h => List.mem_cons_of_mem _ (List.mem_append_right _ h)
theorem miX4_count_X1 : ∀ w ∈ wsX10, w ∈ wsX4_count := fun _ h => List.mem_cons_of_mem _ (List.mem_append_left _ (List.mem_append_right _ h))
theorem miX4_count_X3 : ∀ w ∈ wsX30, w ∈ wsX4_count := fun _ h => List.mem_cons_of_mem _ (List.mem_append_left _ (List.mem_append_left _ (List.mem_append_right _ h)))
theorem miX4_count_X4 : ∀ w ∈ wsX40, w ∈ wsX4_count := fun _ h => List.mem_cons_of_mem _ (List.mem_append_left _ (List.mem_append_left _ (List.mem_append_left _ (List.mem_append_right _ h))))
set_option maxHeartbeats 4000000 in
set_option maxRecDepth 20000 in
theorem cX4_count_c (l : Launch) {κ : pv_Kt} {L : List Nat} {f : Nat → va_E} {x : Nat → Nat → Nat} {Z : Nat → Nat → Nat → Int32} (hok : pv_ok κ x L f Z) (n : Nat) (hn : Z 0 1 0 = nI n) (hn12 : n ≤ 12) (wh : Int32) (pl : Int32) (hpl : Z 9 1 0 = pl) : pv_Mi l κ yX4_count wsX4_count rmX4_count L f [.ref (x 12 2), .int wh] 0 0 (pv_R L f (tCount (Z 0) n pl (Z 12 2 0) wh)) := by
  refine pv_startI (cc := cX4_count) (maxL := 2) (ret := (some .int)) (by decide) rfl (Nat.le_of_ble_eq_true rfl) (fun A0 P0 E0 S0 M0 a0 B0 T0 C0 hC => ?_)
  refine pg_sub (vs' := [(0, .ref (x 12 2)), (1, .int wh)]) [0, 1] rfl ?_
  refine pg_iload_n (pc := 0) hC dX4_count_0 1 rfl rfl ?_
  refine pg_iconst (pc := 1) (v := 0) hC dX4_count_1 (by decide) ?_
  refine pg_gets (pc := 2) hC dX4_count_2 hC.2.2.2.2.2.2.2.2.2.1.1.1 (List.mem_of_getElem? (i := 1) rfl) ?_
  refine pg_tlen (pc := 5) (v := 5) hC dX4_count_5 hC.2.2.2.2.2.2.2.2.2.1.1.1 (by decide) ?_
  refine pg_iconst (pc := 6) (v := 1) hC dX4_count_6 (by decide) ?_
  refine pg_isub (pc := 7) (v := 4) hC dX4_count_7 (by decide) ?_
  refine pg_callSRi (pc := 8) (As := [.int wh, .int 0, .int 4]) (rest := []) hC dX4_count_8 (cX4_isWithin_c l wh 0 4) (va_cwS 3 hC.2.2.2.2.1 gX4_count_X4_isWithin rfl rfl rfl (by decide +kernel) ⟨Nat.le_of_ble_eq_true rfl, Nat.le_of_ble_eq_true rfl⟩) rfl rfl (Nat.le_of_ble_eq_true rfl) (Nat.zero_le _) (Nat.zero_le _) ?_
  refine pg_if_eq (pc := 11) hC 24 dX4_count_11 (by decide)  (fun c1 => ?_) (fun c1 => ?_)
  · skip
    refine pg_iload_n (pc := 24) hC dX4_count_24 1 rfl rfl ?_
    rcases tab_cases wh 5 19 (by omega) with ⟨j, hjl, hj, hxj⟩ | c2
    · skip
      rcases (show j = 5 ∨ j = 6 ∨ j = 7 ∨ j = 8 ∨ j = 9 ∨ j = 10 ∨ j = 11 ∨ j = 12 ∨ j = 13 ∨ j = 14 ∨ j = 15 ∨ j = 16 ∨ j = 17 ∨ j = 18 ∨ j = 19 by omega) with rfl | rfl | rfl | rfl | rfl | rfl | rfl | rfl | rfl | rfl | rfl | rfl | rfl | rfl | rfl
      · skip
        have c3 : wh = 5 := hxj
        refine pg_tabIn (pc := 25) hC 100 dX4_count_25 (by rw [c3]; decide) (by rw [c3]; decide) (by rw [c3]; rfl) (by decide) ?_
        subst c3
        refine pg_aload_n (pc := 100) hC dX4_count_100 0 rfl rfl ?_
        refine pgX_get0 (pc := 101) hC dX4_count_101 (List.mem_of_getElem? (i := 2) rfl) miX4_count_X4 hok ?_
        refine pgS_geti (pc := 104) (v := nI n) hC dX4_count_104 1 (List.mem_of_getElem? (i := 4) rfl) miX4_count_X3 (ogI hok 0) (by decide) (by decide) hn ?_
        exact pg_iret (pc := 107) hC dX4_count_107 rfl ⟨(by first | rfl | (simp [tCount, c1]; done) | (simp_all [tCount]; done)), rfl⟩
      · skip
        have c4 : wh = 6 := hxj
        refine pg_tabIn (pc := 25) hC 108 dX4_count_25 (by rw [c4]; decide) (by rw [c4]; decide) (by rw [c4]; rfl) (by decide) ?_
        subst c4
        refine pg_aload_n (pc := 108) hC dX4_count_108 0 rfl rfl ?_
        refine pgX_get0 (pc := 109) hC dX4_count_109 (List.mem_of_getElem? (i := 2) rfl) miX4_count_X4 hok ?_
        refine pgS_geta (pc := 112) hC dX4_count_112 9 (List.mem_of_getElem? (i := 5) rfl) miX4_count_X3 (ogI hok 0) (by decide) (by decide) (by decide) rfl ?_
        refine pg_callSRi (pc := 115) (As := [.ref (x 0 9)]) (rest := []) hC dX4_count_115 (cX4_sum_c l (n := 10) (by decide) (ok_Sm (ogI hok 0) (by decide) 9 (by decide)) (og_Sa (ogI hok 0) (by decide) 9 (by decide) (by decide))) (va_cwS 1 hC.2.2.2.2.1 gX4_count_X4_sum rfl rfl rfl (by decide +kernel) ⟨Nat.le_of_ble_eq_true rfl, Nat.le_of_ble_eq_true rfl⟩) rfl rfl (Nat.le_of_ble_eq_true rfl) (Nat.zero_le _) (Nat.zero_le _) ?_
        exact pg_iret (pc := 118) hC dX4_count_118 rfl ⟨(by first | rfl | (simp [tCount, c1]; done) | (simp_all [tCount]; done)), rfl⟩
      · skip
        have c5 : wh = 7 := hxj
        refine pg_tabIn (pc := 25) hC 119 dX4_count_25 (by rw [c5]; decide) (by rw [c5]; decide) (by rw [c5]; rfl) (by decide) ?_
        subst c5
        refine pg_aload_n (pc := 119) hC dX4_count_119 0 rfl rfl ?_
        refine pgX_get0 (pc := 120) hC dX4_count_120 (List.mem_of_getElem? (i := 2) rfl) miX4_count_X4 hok ?_
        refine pgS_geta (pc := 123) hC dX4_count_123 13 (List.mem_of_getElem? (i := 6) rfl) miX4_count_X3 (ogI hok 0) (by decide) (by decide) (by decide) rfl ?_
        refine pg_iload_n (pc := 126) hC dX4_count_126 1 rfl rfl ?_
        refine pg_bipush (pc := 127) (v := 7) hC dX4_count_127 (by decide) ?_
        refine pg_isub (pc := 129) (v := 0) hC dX4_count_129 (by decide) ?_
        refine pg_iconst (pc := 130) (v := 1) hC dX4_count_130 (by decide) ?_
        refine pg_iadd (pc := 131) (v := 1) hC dX4_count_131 (by decide) ?_
        refine pgS_iald (pc := 132) (v := Z 0 13 1) hC dX4_count_132 13 (1) (ogI hok 0) (by decide) (by decide) (by decide) rfl (show 1 < 5 by omega) rfl ?_
        exact pg_iret (pc := 133) hC dX4_count_133 rfl ⟨(by first | rfl | (simp [tCount, c1]; done) | (simp_all [tCount]; done)), rfl⟩
      · skip
        have c6 : wh = 8 := hxj
        refine pg_tabIn (pc := 25) hC 119 dX4_count_25 (by rw [c6]; decide) (by rw [c6]; decide) (by rw [c6]; rfl) (by decide) ?_
        subst c6
        refine pg_aload_n (pc := 119) hC dX4_count_119 0 rfl rfl ?_
        refine pgX_get0 (pc := 120) hC dX4_count_120 (List.mem_of_getElem? (i := 2) rfl) miX4_count_X4 hok ?_
        refine pgS_geta (pc := 123) hC dX4_count_123 13 (List.mem_of_getElem? (i := 6) rfl) miX4_count_X3 (ogI hok 0) (by decide) (by decide) (by decide) rfl ?_
        refine pg_iload_n (pc := 126) hC dX4_count_126 1 rfl rfl ?_
        refine pg_bipush (pc := 127) (v := 7) hC dX4_count_127 (by decide) ?_
        refine pg_isub (pc := 129) (v := 1) hC dX4_count_129 (by decide) ?_
        refine pg_iconst (pc := 130) (v := 1) hC dX4_count_130 (by decide) ?_
        refine pg_iadd (pc := 131) (v := 2) hC dX4_count_131 (by decide) ?_
        refine pgS_iald (pc := 132) (v := Z 0 13 2) hC dX4_count_132 13 (2) (ogI hok 0) (by decide) (by decide) (by decide) rfl (show 2 < 5 by omega) rfl ?_
        exact pg_iret (pc := 133) hC dX4_count_133 rfl ⟨(by first | rfl | (simp [tCount, c1]; done) | (simp_all [tCount]; done)), rfl⟩
      · skip
        have c7 : wh = 9 := hxj
        refine pg_tabIn (pc := 25) hC 119 dX4_count_25 (by rw [c7]; decide) (by rw [c7]; decide) (by rw [c7]; rfl) (by decide) ?_
        subst c7
        refine pg_aload_n (pc := 119) hC dX4_count_119 0 rfl rfl ?_
        refine pgX_get0 (pc := 120) hC dX4_count_120 (List.mem_of_getElem? (i := 2) rfl) miX4_count_X4 hok ?_
        refine pgS_geta (pc := 123) hC dX4_count_123 13 (List.mem_of_getElem? (i := 6) rfl) miX4_count_X3 (ogI hok 0) (by decide) (by decide) (by decide) rfl ?_
        refine pg_iload_n (pc := 126) hC dX4_count_126 1 rfl rfl ?_
        refine pg_bipush (pc := 127) (v := 7) hC dX4_count_127 (by decide) ?_
        refine pg_isub (pc := 129) (v := 2) hC dX4_count_129 (by decide) ?_
        refine pg_iconst (pc := 130) (v := 1) hC dX4_count_130 (by decide) ?_
        refine pg_iadd (pc := 131) (v := 3) hC dX4_count_131 (by decide) ?_
        refine pgS_iald (pc := 132) (v := Z 0 13 3) hC dX4_count_132 13 (3) (ogI hok 0) (by decide) (by decide) (by decide) rfl (show 3 < 5 by omega) rfl ?_
        exact pg_iret (pc := 133) hC dX4_count_133 rfl ⟨(by first | rfl | (simp [tCount, c1]; done) | (simp_all [tCount]; done)), rfl⟩
      · skip
        have c8 : wh = 10 := hxj
        refine pg_tabIn (pc := 25) hC 119 dX4_count_25 (by rw [c8]; decide) (by rw [c8]; decide) (by rw [c8]; rfl) (by decide) ?_
        subst c8
        refine pg_aload_n (pc := 119) hC dX4_count_119 0 rfl rfl ?_
        refine pgX_get0 (pc := 120) hC dX4_count_120 (List.mem_of_getElem? (i := 2) rfl) miX4_count_X4 hok ?_
        refine pgS_geta (pc := 123) hC dX4_count_123 13 (List.mem_of_getElem? (i := 6) rfl) miX4_count_X3 (ogI hok 0) (by decide) (by decide) (by decide) rfl ?_
        refine pg_iload_n (pc := 126) hC dX4_count_126 1 rfl rfl ?_
        refine pg_bipush (pc := 127) (v := 7) hC dX4_count_127 (by decide) ?_
        refine pg_isub (pc := 129) (v := 3) hC dX4_count_129 (by decide) ?_
        refine pg_iconst (pc := 130) (v := 1) hC dX4_count_130 (by decide) ?_
        refine pg_iadd (pc := 131) (v := 4) hC dX4_count_131 (by decide) ?_
        refine pgS_iald (pc := 132) (v := Z 0 13 4) hC dX4_count_132 13 (4) (ogI hok 0) (by decide) (by decide) (by decide) rfl (show 4 < 5 by omega) rfl ?_
        exact pg_iret (pc := 133) hC dX4_count_133 rfl ⟨(by first | rfl | (simp [tCount, c1]; done) | (simp_all [tCount]; done)), rfl⟩
      · skip
        have c9 : wh = 11 := hxj
        refine pg_tabIn (pc := 25) hC 134 dX4_count_25 (by rw [c9]; decide) (by rw [c9]; decide) (by rw [c9]; rfl) (by decide) ?_
        subst c9
        refine pg_aload_n (pc := 134) hC dX4_count_134 0 rfl rfl ?_
        refine pgX_get0 (pc := 135) hC dX4_count_135 (List.mem_of_getElem? (i := 2) rfl) miX4_count_X4 hok ?_
        refine pgS_geta (pc := 138) hC dX4_count_138 7 (List.mem_of_getElem? (i := 7) rfl) miX4_count_X3 (ogI hok 0) (by decide) (by decide) (by decide) rfl ?_
        refine pg_callSRi (pc := 141) (As := [.ref (x 0 7)]) (rest := []) hC dX4_count_141 (cX4_sum_c l (n := 10) (by decide) (ok_Sm (ogI hok 0) (by decide) 7 (by decide)) (og_Sa (ogI hok 0) (by decide) 7 (by decide) (by decide))) (va_cwS 1 hC.2.2.2.2.1 gX4_count_X4_sum rfl rfl rfl (by decide +kernel) ⟨Nat.le_of_ble_eq_true rfl, Nat.le_of_ble_eq_true rfl⟩) rfl rfl (Nat.le_of_ble_eq_true rfl) (Nat.zero_le _) (Nat.zero_le _) ?_
        exact pg_iret (pc := 144) hC dX4_count_144 rfl ⟨(by first | rfl | (simp [tCount, c1]; done) | (simp_all [tCount]; done)), rfl⟩
      · skip
        have c10 : wh = 12 := hxj
        refine pg_tabIn (pc := 25) hC 145 dX4_count_25 (by rw [c10]; decide) (by rw [c10]; decide) (by rw [c10]; rfl) (by decide) ?_
        subst c10
        refine pg_aload_n (pc := 145) hC dX4_count_145 0 rfl rfl ?_
        refine pgX_get0 (pc := 146) hC dX4_count_146 (List.mem_of_getElem? (i := 2) rfl) miX4_count_X4 hok ?_
        refine pgS_geta (pc := 149) hC dX4_count_149 8 (List.mem_of_getElem? (i := 8) rfl) miX4_count_X3 (ogI hok 0) (by decide) (by decide) (by decide) rfl ?_
        refine pg_callSRi (pc := 152) (As := [.ref (x 0 8)]) (rest := []) hC dX4_count_152 (cX4_sum_c l (n := 10) (by decide) (ok_Sm (ogI hok 0) (by decide) 8 (by decide)) (og_Sa (ogI hok 0) (by decide) 8 (by decide) (by decide))) (va_cwS 1 hC.2.2.2.2.1 gX4_count_X4_sum rfl rfl rfl (by decide +kernel) ⟨Nat.le_of_ble_eq_true rfl, Nat.le_of_ble_eq_true rfl⟩) rfl rfl (Nat.le_of_ble_eq_true rfl) (Nat.zero_le _) (Nat.zero_le _) ?_
        exact pg_iret (pc := 155) hC dX4_count_155 rfl ⟨(by first | rfl | (simp [tCount, c1]; done) | (simp_all [tCount]; done)), rfl⟩
      · skip
        have c11 : wh = 13 := hxj
        refine pg_tabIn (pc := 25) hC 156 dX4_count_25 (by rw [c11]; decide) (by rw [c11]; decide) (by rw [c11]; rfl) (by decide) ?_
        subst c11
        refine pg_aload_n (pc := 156) hC dX4_count_156 0 rfl rfl ?_
        refine pgX_get0 (pc := 157) hC dX4_count_157 (List.mem_of_getElem? (i := 2) rfl) miX4_count_X4 hok ?_
        refine pgS_geta (pc := 160) hC dX4_count_160 7 (List.mem_of_getElem? (i := 7) rfl) miX4_count_X3 (ogI hok 0) (by decide) (by decide) (by decide) rfl ?_
        refine pg_callSRi (pc := 163) (As := [.ref (x 0 7)]) (rest := []) hC dX4_count_163 (cX4_sum_c l (n := 10) (by decide) (ok_Sm (ogI hok 0) (by decide) 7 (by decide)) (og_Sa (ogI hok 0) (by decide) 7 (by decide) (by decide))) (va_cwS 1 hC.2.2.2.2.1 gX4_count_X4_sum rfl rfl rfl (by decide +kernel) ⟨Nat.le_of_ble_eq_true rfl, Nat.le_of_ble_eq_true rfl⟩) rfl rfl (Nat.le_of_ble_eq_true rfl) (Nat.zero_le _) (Nat.zero_le _) ?_
        refine pg_aload_n (pc := 166) hC dX4_count_166 0 rfl rfl ?_
        refine pgX_get0 (pc := 167) hC dX4_count_167 (List.mem_of_getElem? (i := 2) rfl) miX4_count_X4 hok ?_
        refine pgS_geta (pc := 170) hC dX4_count_170 8 (List.mem_of_getElem? (i := 8) rfl) miX4_count_X3 (ogI hok 0) (by decide) (by decide) (by decide) rfl ?_
        refine pg_callSRi (pc := 173) (As := [.ref (x 0 8)]) (rest := [.int (bx_sum (Z 0 7) 10)]) hC dX4_count_173 (cX4_sum_c l (n := 10) (by decide) (ok_Sm (ogI hok 0) (by decide) 8 (by decide)) (og_Sa (ogI hok 0) (by decide) 8 (by decide) (by decide))) (va_cwS 1 hC.2.2.2.2.1 gX4_count_X4_sum rfl rfl rfl (by decide +kernel) ⟨Nat.le_of_ble_eq_true rfl, Nat.le_of_ble_eq_true rfl⟩) rfl rfl (Nat.le_of_ble_eq_true rfl) (Nat.zero_le _) (Nat.zero_le _) ?_
        refine pg_iadd (pc := 176) (v := (bx_sum (Z 0 7) 10) + (bx_sum (Z 0 8) 10)) hC dX4_count_176 rfl ?_
        exact pg_iret (pc := 177) hC dX4_count_177 rfl ⟨(by first | rfl | (simp [tCount, c1]; done) | (simp_all [tCount]; done)), rfl⟩
      · skip
        have c12 : wh = 14 := hxj
        refine pg_tabIn (pc := 25) hC 178 dX4_count_25 (by rw [c12]; decide) (by rw [c12]; decide) (by rw [c12]; rfl) (by decide) ?_
        subst c12
        refine pg_aload_n (pc := 178) hC dX4_count_178 0 rfl rfl ?_
        refine pgX_get0 (pc := 179) hC dX4_count_179 (List.mem_of_getElem? (i := 2) rfl) miX4_count_X4 hok ?_
        refine pgS_geti (pc := 182) (v := Z 0 14 0) hC dX4_count_182 14 (List.mem_of_getElem? (i := 9) rfl) miX4_count_X3 (ogI hok 0) (by decide) (by decide) rfl ?_
        exact pg_iret (pc := 185) hC dX4_count_185 rfl ⟨(by first | rfl | (simp [tCount, c1]; done) | (simp_all [tCount]; done)), rfl⟩
      · skip
        have c13 : wh = 15 := hxj
        refine pg_tabIn (pc := 25) hC 186 dX4_count_25 (by rw [c13]; decide) (by rw [c13]; decide) (by rw [c13]; rfl) (by decide) ?_
        subst c13
        refine pg_aload_n (pc := 186) hC dX4_count_186 0 rfl rfl ?_
        refine pgX_get0 (pc := 187) hC dX4_count_187 (List.mem_of_getElem? (i := 2) rfl) miX4_count_X4 hok ?_
        refine pgS_geta (pc := 190) hC dX4_count_190 6 (List.mem_of_getElem? (i := 10) rfl) miX4_count_X3 (ogI hok 0) (by decide) (by decide) (by decide) rfl ?_
        refine pg_callSRi (pc := 193) (As := [.ref (x 0 6)]) (rest := []) hC dX4_count_193 (cX4_sum_c l (n := 10) (by decide) (ok_Sm (ogI hok 0) (by decide) 6 (by decide)) (og_Sa (ogI hok 0) (by decide) 6 (by decide) (by decide))) (va_cwS 1 hC.2.2.2.2.1 gX4_count_X4_sum rfl rfl rfl (by decide +kernel) ⟨Nat.le_of_ble_eq_true rfl, Nat.le_of_ble_eq_true rfl⟩) rfl rfl (Nat.le_of_ble_eq_true rfl) (Nat.zero_le _) (Nat.zero_le _) ?_
        exact pg_iret (pc := 196) hC dX4_count_196 rfl ⟨(by first | rfl | (simp [tCount, c1]; done) | (simp_all [tCount]; done)), rfl⟩
      · skip
        have c14 : wh = 16 := hxj
        refine pg_tabIn (pc := 25) hC 197 dX4_count_25 (by rw [c14]; decide) (by rw [c14]; decide) (by rw [c14]; rfl) (by decide) ?_
        subst c14
        refine pg_aload_n (pc := 197) hC dX4_count_197 0 rfl rfl ?_
        refine pgX_get0 (pc := 198) hC dX4_count_198 (List.mem_of_getElem? (i := 2) rfl) miX4_count_X4 hok ?_
        refine pgS_geta (pc := 201) hC dX4_count_201 12 (List.mem_of_getElem? (i := 11) rfl) miX4_count_X3 (ogI hok 0) (by decide) (by decide) (by decide) rfl ?_
        refine pg_callSRi (pc := 204) (As := [.ref (x 0 12)]) (rest := []) hC dX4_count_204 (cX4_sum_c l (n := 5) (by decide) (ok_Sm (ogI hok 0) (by decide) 12 (by decide)) (og_Sa (ogI hok 0) (by decide) 12 (by decide) (by decide))) (va_cwS 1 hC.2.2.2.2.1 gX4_count_X4_sum rfl rfl rfl (by decide +kernel) ⟨Nat.le_of_ble_eq_true rfl, Nat.le_of_ble_eq_true rfl⟩) rfl rfl (Nat.le_of_ble_eq_true rfl) (Nat.zero_le _) (Nat.zero_le _) ?_
        exact pg_iret (pc := 207) hC dX4_count_207 rfl ⟨(by first | rfl | (simp [tCount, c1]; done) | (simp_all [tCount]; done)), rfl⟩
      · skip
        have c15 : wh = 17 := hxj
        refine pg_tabIn (pc := 25) hC 208 dX4_count_25 (by rw [c15]; decide) (by rw [c15]; decide) (by rw [c15]; rfl) (by decide) ?_
        subst c15
        refine pg_aload_n (pc := 208) hC dX4_count_208 0 rfl rfl ?_
        refine pgX_get0 (pc := 209) hC dX4_count_209 (List.mem_of_getElem? (i := 2) rfl) miX4_count_X4 hok ?_
        refine pg_callVRi (pc := 212) (As := []) (rest := []) hC dX4_count_212 (cX3_wornOutExcuses_c l (by decide) (ogI hok 0) n hn hn12) (cwV 0 hC.2.2.2.2.1 gX4_count_X3_wornOutExcuses rfl rfl rfl (by decide +kernel) ⟨Nat.le_of_ble_eq_true rfl, Nat.le_of_ble_eq_true rfl⟩) (ok_Sm (ogI hok 0) (by decide) 1 (by decide)) (og_So (ogI hok 0) (by decide)) rfl rfl rfl rfl (Nat.le_of_ble_eq_true rfl) (Nat.zero_le _) (Nat.zero_le _) ?_
        exact pg_iret (pc := 215) hC dX4_count_215 rfl ⟨(by first | rfl | (simp [tCount, c1]; done) | (simp_all [tCount]; done)), rfl⟩
      · skip
        have c16 : wh = 18 := hxj
        refine pg_tabIn (pc := 25) hC 216 dX4_count_25 (by rw [c16]; decide) (by rw [c16]; decide) (by rw [c16]; rfl) (by decide) ?_
        subst c16
        refine pg_aload_n (pc := 216) hC dX4_count_216 0 rfl rfl ?_
        refine pgX_get4 (pc := 217) hC dX4_count_217 (List.mem_of_getElem? (i := 12) rfl) miX4_count_X4 hok ?_
        refine pgP_geti (pc := 220) (v := pl) hC dX4_count_220 1 (List.mem_of_getElem? (i := 13) rfl) miX4_count_X1 (ogI hok 9) (by decide) hpl ?_
        exact pg_iret (pc := 223) hC dX4_count_223 rfl ⟨(by first | rfl | (simp [tCount, c1]; done) | (simp_all [tCount]; done)), rfl⟩
      · skip
        have c17 : wh = 19 := hxj
        refine pg_tabIn (pc := 25) hC 224 dX4_count_25 (by rw [c17]; decide) (by rw [c17]; decide) (by rw [c17]; rfl) (by decide) ?_
        subst c17
        refine pg_aload_n (pc := 224) hC dX4_count_224 0 rfl rfl ?_
        refine pgX_get1 (pc := 225) hC dX4_count_225 (List.mem_of_getElem? (i := 14) rfl) miX4_count_X4 hok ?_
        refine pgH_geti (pc := 228) (v := Z 12 2 0) hC dX4_count_228 2 (List.mem_of_getElem? (i := 15) rfl) miX4_count_X0 (ogI hok 12) (by decide) rfl ?_
        exact pg_iret (pc := 231) hC dX4_count_231 rfl ⟨(by first | rfl | (simp [tCount, c1]; done) | (simp_all [tCount]; done)), rfl⟩
    · skip
      refine pg_tabOut (pc := 25) hC 232 dX4_count_25 c2 (by decide) ?_
      have n18 : ¬ wh = 5 := fun q => by rw [q] at c2; revert c2; decide
      have n19 : ¬ wh = 6 := fun q => by rw [q] at c2; revert c2; decide
      have n20 : ¬ wh = 7 := fun q => by rw [q] at c2; revert c2; decide
      have n21 : ¬ wh = 8 := fun q => by rw [q] at c2; revert c2; decide
      have n22 : ¬ wh = 9 := fun q => by rw [q] at c2; revert c2; decide
      have n23 : ¬ wh = 10 := fun q => by rw [q] at c2; revert c2; decide
      have n24 : ¬ wh = 11 := fun q => by rw [q] at c2; revert c2; decide
      have n25 : ¬ wh = 12 := fun q => by rw [q] at c2; revert c2; decide
      have n26 : ¬ wh = 13 := fun q => by rw [q] at c2; revert c2; decide
      have n27 : ¬ wh = 14 := fun q => by rw [q] at c2; revert c2; decide
      have n28 : ¬ wh = 15 := fun q => by rw [q] at c2; revert c2; decide
      have n29 : ¬ wh = 16 := fun q => by rw [q] at c2; revert c2; decide
      have n30 : ¬ wh = 17 := fun q => by rw [q] at c2; revert c2; decide
      have n31 : ¬ wh = 18 := fun q => by rw [q] at c2; revert c2; decide
      have n32 : ¬ wh = 19 := fun q => by rw [q] at c2; revert c2; decide
      refine pg_bipush (pc := 232) (v := (-2)) hC dX4_count_232 (by decide) ?_
      exact pg_iret (pc := 234) hC dX4_count_234 rfl ⟨(by first | rfl | (simp [tCount, c1, n18, n19, n20, n21, n22, n23, n24, n25, n26, n27, n28, n29, n30, n31, n32]; done) | (simp_all [tCount]; done)), rfl⟩
  · skip
    obtain ⟨k, hk4, rfl⟩ := bW_nat (m := 4) rfl (by decide) c1
    have clk : cl (nI k) = k := cl_nI (by omega)
    refine pg_aload_n (pc := 14) hC dX4_count_14 0 rfl rfl ?_
    refine pgX_get0 (pc := 15) hC dX4_count_15 (List.mem_of_getElem? (i := 2) rfl) miX4_count_X4 hok ?_
    refine pgS_geta (pc := 18) hC dX4_count_18 0 (List.mem_of_getElem? (i := 3) rfl) miX4_count_X3 (ogI hok 0) (by decide) (by decide) (by decide) rfl ?_
    refine pg_iload_n (pc := 21) hC dX4_count_21 1 rfl rfl ?_
    refine pgS_iald (pc := 22) (v := Z 0 0 k) hC dX4_count_22 0 (k) (ogI hok 0) (by decide) (by decide) (by decide) rfl (show k < 5 by omega) rfl ?_
    exact pg_iret (pc := 23) hC dX4_count_23 rfl ⟨(by first | rfl | (simp [tCount, c1, clk]; done) | (simp_all [tCount]; done)), rfl⟩
abbrev rmX4_bestExcuse : Room := { frames := 4, cells := 0, slots := 0, locals := 95 }
theorem miX4_bestExcuse_X3 : ∀ w ∈ wsX30, w ∈ wsX4_bestExcuse := fun _ h => List.mem_cons_of_mem _ (List.mem_append_right _ h)
theorem miX4_bestExcuse_X4 : ∀ w ∈ wsX40, w ∈ wsX4_bestExcuse := fun _ h => List.mem_cons_of_mem _ (List.mem_append_left _ (List.mem_append_right _ h))
set_option maxHeartbeats 2000000 in
set_option maxRecDepth 20000 in
theorem cX4_bestExcuse_c (l : Launch) {κ : pv_Kt} {L : List Nat} {f : Nat → va_E} {x : Nat → Nat → Nat} {Z : Nat → Nat → Nat → Int32} (hok : pv_ok κ x L f Z) (n : Nat) (hn : Z 0 1 0 = nI n) (hn12 : n ≤ 12) (pp mn : Int32) : pv_Mi l κ yX4_bestExcuse wsX4_bestExcuse rmX4_bestExcuse L f [.ref (x 12 2), .int pp, .int mn] 0 0 (pv_R L f (tBestE (Z 0) n pp mn)) := by
  refine pv_startI (cc := cX4_bestExcuse) (maxL := 7) (ret := (some .int)) (by decide) rfl (Nat.le_of_ble_eq_true rfl) (fun A0 P0 E0 S0 M0 a0 B0 T0 C0 hC => ?_)
  refine pg_sub (vs' := [(0, .ref (x 12 2)), (1, .int pp), (2, .int mn)]) [0, 1, 2] rfl ?_
  refine pg_iload_n (pc := 0) hC dX4_bestExcuse_0 1 rfl rfl ?_
  refine pg_callSRi (pc := 1) (As := [.int pp]) (rest := []) hC dX4_bestExcuse_1 (cX4_isPupil_c l pp) (va_cwS 1 hC.2.2.2.2.1 gX4_bestExcuse_X4_isPupil rfl rfl rfl (by decide +kernel) ⟨Nat.le_of_ble_eq_true rfl, Nat.le_of_ble_eq_true rfl⟩) rfl rfl (Nat.le_of_ble_eq_true rfl) (Nat.zero_le _) (Nat.zero_le _) ?_
  refine pg_if_ne (pc := 4) hC 9 dX4_bestExcuse_4 (by decide)  (fun c1 => ?_) (fun c1 => ?_)
  · skip
    obtain ⟨p, hp, rfl⟩ := bW_nat (m := 9) rfl (by decide) c1
    have clp : cl (nI p) = p := cl_nI (by omega)
    refine pg_iload_n (pc := 9) hC dX4_bestExcuse_9 2 rfl rfl ?_
    refine pg_iconst (pc := 10) (v := 1) hC dX4_bestExcuse_10 (by decide) ?_
    refine pg_bipush (pc := 11) (v := 99) hC dX4_bestExcuse_11 (by decide) ?_
    refine pg_callSRi (pc := 13) (As := [.int mn, .int 1, .int 99]) (rest := []) hC dX4_bestExcuse_13 (cX4_isWithin_c l mn 1 99) (va_cwS 3 hC.2.2.2.2.1 gX4_bestExcuse_X4_isWithin rfl rfl rfl (by decide +kernel) ⟨Nat.le_of_ble_eq_true rfl, Nat.le_of_ble_eq_true rfl⟩) rfl rfl (Nat.le_of_ble_eq_true rfl) (Nat.zero_le _) (Nat.zero_le _) ?_
    refine pg_if_ne (pc := 16) hC 22 dX4_bestExcuse_16 (by decide)  (fun c2 => ?_) (fun c2 => ?_)
    · skip
      refine pg_bipush (pc := 22) (v := (-6)) hC dX4_bestExcuse_22 (by decide) ?_
      refine pg_istore_n (pc := 24) (vs' := [(3, .int (-6)), (0, .ref (x 12 2)), (1, .int (nI p)), (2, .int mn)]) hC dX4_bestExcuse_24 rfl (by decide) rfl ?_
      refine pg_iconst (pc := 25) (v := 0) hC dX4_bestExcuse_25 (by decide) ?_
      refine pg_istore (pc := 26) (vs' := [(4, .int 0), (3, .int (-6)), (0, .ref (x 12 2)), (1, .int (nI p)), (2, .int mn)]) hC dX4_bestExcuse_26 (by decide) rfl ?_
      refine pg_iconst (pc := 28) (v := 0) hC dX4_bestExcuse_28 (by decide) ?_
      refine pg_istore (pc := 29) (vs' := [(5, .int 0), (4, .int 0), (3, .int (-6)), (0, .ref (x 12 2)), (1, .int (nI p)), (2, .int mn)]) hC dX4_bestExcuse_29 (by decide) rfl ?_
      refine pg_sub (vs' := [(0, .ref (x 12 2)), (1, .int (nI p)), (2, .int mn), (3, .int (-6)), (4, .int 0), (5, .int 0)]) [3, 4, 5, 2, 1, 0] rfl ?_
      refine pg_loop (pc := 31) (σ := Nat) (I := fun q => match q with | k => k ≤ n) (μ := fun q => match q with | k => n - k) (VS := fun q => match q with | k => [(0, .ref (x 12 2)), (1, .int (nI p)), (2, .int mn), (3, .int ((sBE (Z 0) p mn k).1)), (4, .int ((sBE (Z 0) p mn k).2)), (5, .int (nI k))]) (FF := fun q => match q with | k => f) ?_ (0) (Nat.zero_le _)
      intro q hI ih3
      obtain ⟨k, rfl⟩ : ∃ z, z = q := ⟨_, rfl⟩
      dsimp only at hI ih3 ⊢
      have hI2 := hI
      obtain hk := hI
      refine pg_iload (pc := 31) hC dX4_bestExcuse_31 5 rfl ?_
      refine pg_aload_n (pc := 33) hC dX4_bestExcuse_33 0 rfl rfl ?_
      refine pgX_get0 (pc := 34) hC dX4_bestExcuse_34 (List.mem_of_getElem? (i := 1) rfl) miX4_bestExcuse_X4 hok ?_
      refine pgS_geti (pc := 37) (v := nI n) hC dX4_bestExcuse_37 1 (List.mem_of_getElem? (i := 2) rfl) miX4_bestExcuse_X3 (ogI hok 0) (by decide) (by decide) hn ?_
      refine pg_icmp_geN (pc := 40) hC 100 dX4_bestExcuse_40 (by decide) (k) (n) rfl rfl (by omega) (by omega) (fun c4 => ?_) (fun c4 => ?_)
      · skip
        refine pg_iload_n (pc := 100) hC dX4_bestExcuse_100 3 rfl rfl ?_
        exact pg_iret (pc := 101) hC dX4_bestExcuse_101 rfl ⟨(by rw [show k = n by omega]; simp [tBestE, c1, c2, clp]), rfl⟩
      · skip
        refine pg_aload_n (pc := 43) hC dX4_bestExcuse_43 0 rfl rfl ?_
        refine pgX_get0 (pc := 44) hC dX4_bestExcuse_44 (List.mem_of_getElem? (i := 1) rfl) miX4_bestExcuse_X4 hok ?_
        refine pg_iload_n (pc := 47) hC dX4_bestExcuse_47 1 rfl rfl ?_
        refine pg_iload (pc := 48) hC dX4_bestExcuse_48 5 rfl ?_
        refine pg_bipush (pc := 50) (v := (-6)) hC dX4_bestExcuse_50 (by decide) ?_
        refine pg_iload_n (pc := 52) hC dX4_bestExcuse_52 2 rfl rfl ?_
        refine pg_callVRi (pc := 53) (As := [.int (nI p), .int (nI k), .int (-6), .int mn]) (rest := []) hC dX4_bestExcuse_53 (cX3_reasonAgainst_c l (by decide) (ogI hok 0) (p) (k) (by omega) (by omega) (-6) (Or.inl rfl) mn) (cwV 4 hC.2.2.2.2.1 gX4_bestExcuse_X3_reasonAgainst rfl rfl rfl (by decide +kernel) ⟨Nat.le_of_ble_eq_true rfl, Nat.le_of_ble_eq_true rfl⟩) (ok_Sm (ogI hok 0) (by decide) 1 (by decide)) (og_So (ogI hok 0) (by decide)) rfl rfl rfl rfl (Nat.le_of_ble_eq_true rfl) (Nat.zero_le _) (Nat.zero_le _) ?_
        refine pg_if_ne (pc := 56) hC 94 dX4_bestExcuse_56 (by decide)  (fun c5 => ?_) (fun c5 => ?_)
        · skip
          refine pg_iinc (pc := 94) (v := nI (k + 1)) (vs' := [(5, .int (nI (k + 1))), (0, .ref (x 12 2)), (1, .int (nI p)), (2, .int mn), (3, .int ((sBE (Z 0) p mn k).1)), (4, .int ((sBE (Z 0) p mn k).2))]) hC dX4_bestExcuse_94 5 rfl (nI_add (k) 1) (by decide) rfl ?_
          refine pg_goto (pc := 97) hC 31 dX4_bestExcuse_97 (by decide) ?_
          refine pg_sub (vs' := [(0, .ref (x 12 2)), (1, .int (nI p)), (2, .int mn), (3, .int ((sBE (Z 0) p mn k).1)), (4, .int ((sBE (Z 0) p mn k).2)), (5, .int (nI (k + 1)))]) [1, 2, 3, 4, 5, 0] rfl ?_
          refine pg_vs (vs' := [(0, .ref (x 12 2)), (1, .int (nI p)), (2, .int mn), (3, .int ((sBE (Z 0) p mn (k + 1)).1)), (4, .int ((sBE (Z 0) p mn (k + 1)).2)), (5, .int (nI (k + 1)))]) (by rw [show sBE (Z 0) p mn (k + 1) = sBE (Z 0) p mn k from by simp [sBE, c1, c2, c4, c5, clp]]) ?_
          exact ih3 (k + 1) (by omega) (by omega)
        · skip
          refine pg_aload_n (pc := 59) hC dX4_bestExcuse_59 0 rfl rfl ?_
          refine pgX_get0 (pc := 60) hC dX4_bestExcuse_60 (List.mem_of_getElem? (i := 1) rfl) miX4_bestExcuse_X4 hok ?_
          refine pg_iload_n (pc := 63) hC dX4_bestExcuse_63 1 rfl rfl ?_
          refine pg_iload (pc := 64) hC dX4_bestExcuse_64 5 rfl ?_
          refine pg_bipush (pc := 66) (v := (-6)) hC dX4_bestExcuse_66 (by decide) ?_
          refine pg_iload_n (pc := 68) hC dX4_bestExcuse_68 2 rfl rfl ?_
          refine pg_callVRi (pc := 69) (As := [.int (nI p), .int (nI k), .int (-6), .int mn]) (rest := []) hC dX4_bestExcuse_69 (cX3_weightOf_c l (by decide) (ogI hok 0) (p) (k) (by omega) (by omega) (-6) (Or.inl rfl) mn) (cwV 4 hC.2.2.2.2.1 gX4_bestExcuse_X3_weightOf rfl rfl rfl (by decide +kernel) ⟨Nat.le_of_ble_eq_true rfl, Nat.le_of_ble_eq_true rfl⟩) (ok_Sm (ogI hok 0) (by decide) 1 (by decide)) (og_So (ogI hok 0) (by decide)) rfl rfl rfl rfl (Nat.le_of_ble_eq_true rfl) (Nat.zero_le _) (Nat.zero_le _) ?_
          refine pg_istore (pc := 72) (vs' := [(6, .int (sWt (Z 0) (p) (k) (-6) mn)), (0, .ref (x 12 2)), (1, .int (nI p)), (2, .int mn), (3, .int ((sBE (Z 0) p mn k).1)), (4, .int ((sBE (Z 0) p mn k).2)), (5, .int (nI k))]) hC dX4_bestExcuse_72 (by decide) rfl ?_
          refine pg_iload_n (pc := 74) hC dX4_bestExcuse_74 4 rfl rfl ?_
          refine pg_bipush (pc := 75) (v := (-6)) hC dX4_bestExcuse_75 (by decide) ?_
          refine pg_icmp_eq (pc := 77) hC 87 dX4_bestExcuse_77 (by decide)  (fun c6 => ?_) (fun c6 => ?_)
          · skip
            refine pg_iload (pc := 87) hC dX4_bestExcuse_87 6 rfl ?_
            refine pg_istore_n (pc := 89) (vs' := [(3, .int (nI k)), (6, .int (sWt (Z 0) (p) (k) (-6) mn)), (0, .ref (x 12 2)), (1, .int (nI p)), (2, .int mn), (4, .int ((sBE (Z 0) p mn k).2)), (5, .int (nI k))]) hC dX4_bestExcuse_89 rfl (by decide) rfl ?_
            refine pg_iload (pc := 90) hC dX4_bestExcuse_90 1 rfl ?_
            refine pg_istore (pc := 92) (vs' := [(4, .int (sWt (Z 0) (p) (k) (-6) mn)), (3, .int (nI k)), (6, .int (sWt (Z 0) (p) (k) (-6) mn)), (0, .ref (x 12 2)), (1, .int (nI p)), (2, .int mn), (5, .int (nI k))]) hC dX4_bestExcuse_92 (by decide) rfl ?_
            refine pg_iinc (pc := 94) (v := nI (k + 1)) (vs' := [(5, .int (nI (k + 1))), (4, .int (sWt (Z 0) (p) (k) (-6) mn)), (3, .int (nI k)), (6, .int (sWt (Z 0) (p) (k) (-6) mn)), (0, .ref (x 12 2)), (1, .int (nI p)), (2, .int mn)]) hC dX4_bestExcuse_94 6 rfl (nI_add (k) 1) (by decide) rfl ?_
            refine pg_goto (pc := 97) hC 31 dX4_bestExcuse_97 (by decide) ?_
            refine pg_sub (vs' := [(0, .ref (x 12 2)), (1, .int (nI p)), (2, .int mn), (3, .int (nI k)), (4, .int (sWt (Z 0) (p) (k) (-6) mn)), (5, .int (nI (k + 1)))]) [4, 5, 6, 2, 1, 0] rfl ?_
            refine pg_vs (vs' := [(0, .ref (x 12 2)), (1, .int (nI p)), (2, .int mn), (3, .int ((sBE (Z 0) p mn (k + 1)).1)), (4, .int ((sBE (Z 0) p mn (k + 1)).2)), (5, .int (nI (k + 1)))]) (by rw [show sBE (Z 0) p mn (k + 1) = (nI k, sWt (Z 0) (p) (k) (-6) mn) from by simp [sBE, c1, c2, c4, c5, c6, clp]]) ?_
            exact ih3 (k + 1) (by omega) (by omega)
          · skip
            refine pg_iload (pc := 80) hC dX4_bestExcuse_80 0 rfl ?_
            refine pg_iload (pc := 82) hC dX4_bestExcuse_82 5 rfl ?_
            refine pg_icmp_le (pc := 84) hC 94 dX4_bestExcuse_84 (by decide)  (fun c7 => ?_) (fun c7 => ?_)
            · skip
              refine pg_iinc (pc := 94) (v := nI (k + 1)) (vs' := [(5, .int (nI (k + 1))), (6, .int (sWt (Z 0) (p) (k) (-6) mn)), (0, .ref (x 12 2)), (1, .int (nI p)), (2, .int mn), (3, .int ((sBE (Z 0) p mn k).1)), (4, .int ((sBE (Z 0) p mn k).2))]) hC dX4_bestExcuse_94 6 rfl (nI_add (k) 1) (by decide) rfl ?_
              refine pg_goto (pc := 97) hC 31 dX4_bestExcuse_97 (by decide) ?_
              refine pg_sub (vs' := [(0, .ref (x 12 2)), (1, .int (nI p)), (2, .int mn), (3, .int ((sBE (Z 0) p mn k).1)), (4, .int ((sBE (Z 0) p mn k).2)), (5, .int (nI (k + 1)))]) [2, 3, 4, 5, 6, 0] rfl ?_
              refine pg_vs (vs' := [(0, .ref (x 12 2)), (1, .int (nI p)), (2, .int mn), (3, .int ((sBE (Z 0) p mn (k + 1)).1)), (4, .int ((sBE (Z 0) p mn (k + 1)).2)), (5, .int (nI (k + 1)))]) (by rw [show sBE (Z 0) p mn (k + 1) = sBE (Z 0) p mn k from by simp [sBE, c1, c2, c4, c5, c6, c7, clp]]) ?_
              exact ih3 (k + 1) (by omega) (by omega)
            · skip
              refine pg_iload (pc := 87) hC dX4_bestExcuse_87 6 rfl ?_
              refine pg_istore_n (pc := 89) (vs' := [(3, .int (nI k)), (6, .int (sWt (Z 0) (p) (k) (-6) mn)), (0, .ref (x 12 2)), (1, .int (nI p)), (2, .int mn), (4, .int ((sBE (Z 0) p mn k).2)), (5, .int (nI k))]) hC dX4_bestExcuse_89 rfl (by decide) rfl ?_
              refine pg_iload (pc := 90) hC dX4_bestExcuse_90 1 rfl ?_
              refine pg_istore (pc := 92) (vs' := [(4, .int (sWt (Z 0) (p) (k) (-6) mn)), (3, .int (nI k)), (6, .int (sWt (Z 0) (p) (k) (-6) mn)), (0, .ref (x 12 2)), (1, .int (nI p)), (2, .int mn), (5, .int (nI k))]) hC dX4_bestExcuse_92 (by decide) rfl ?_
              refine pg_iinc (pc := 94) (v := nI (k + 1)) (vs' := [(5, .int (nI (k + 1))), (4, .int (sWt (Z 0) (p) (k) (-6) mn)), (3, .int (nI k)), (6, .int (sWt (Z 0) (p) (k) (-6) mn)), (0, .ref (x 12 2)), (1, .int (nI p)), (2, .int mn)]) hC dX4_bestExcuse_94 6 rfl (nI_add (k) 1) (by decide) rfl ?_
              refine pg_goto (pc := 97) hC 31 dX4_bestExcuse_97 (by decide) ?_
              refine pg_sub (vs' := [(0, .ref (x 12 2)), (1, .int (nI p)), (2, .int mn), (3, .int (nI k)), (4, .int (sWt (Z 0) (p) (k) (-6) mn)), (5, .int (nI (k + 1)))]) [4, 5, 6, 2, 1, 0] rfl ?_
              refine pg_vs (vs' := [(0, .ref (x 12 2)), (1, .int (nI p)), (2, .int mn), (3, .int ((sBE (Z 0) p mn (k + 1)).1)), (4, .int ((sBE (Z 0) p mn (k + 1)).2)), (5, .int (nI (k + 1)))]) (by rw [show sBE (Z 0) p mn (k + 1) = (nI k, sWt (Z 0) (p) (k) (-6) mn) from by simp [sBE, c1, c2, c4, c5, c6, c7, clp]]) ?_
              exact ih3 (k + 1) (by omega) (by omega)
    · skip
      refine pg_bipush (pc := 19) (v := (-2)) hC dX4_bestExcuse_19 (by decide) ?_
      exact pg_iret (pc := 21) hC dX4_bestExcuse_21 rfl ⟨(by simp [tBestE, c1, c2, clp]), rfl⟩
  · skip
    refine pg_iconst (pc := 7) (v := (-1)) hC dX4_bestExcuse_7 (by decide) ?_
    exact pg_iret (pc := 8) hC dX4_bestExcuse_8 rfl ⟨(by simp [tBestE, c1]), rfl⟩
abbrev rmX4_bestWitness : Room := { frames := 3, cells := 0, slots := 0, locals := 71 }
theorem miX4_bestWitness_X3 : ∀ w ∈ wsX30, w ∈ wsX4_bestWitness := fun _ h => List.mem_cons_of_mem _ (List.mem_append_right _ h)
theorem miX4_bestWitness_X4 : ∀ w ∈ wsX40, w ∈ wsX4_bestWitness := fun _ h => List.mem_cons_of_mem _ (List.mem_append_left _ (List.mem_append_right _ h))
set_option maxHeartbeats 2000000 in
set_option maxRecDepth 20000 in
theorem cX4_bestWitness_c (l : Launch) {κ : pv_Kt} {L : List Nat} {f : Nat → va_E} {x : Nat → Nat → Nat} {Z : Nat → Nat → Nat → Int32} (hok : pv_ok κ x L f Z) (n : Nat) (hn : Z 0 1 0 = nI n) (hn12 : n ≤ 12) (pp ee mn : Int32) : pv_Mi l κ yX4_bestWitness wsX4_bestWitness rmX4_bestWitness L f [.ref (x 12 2), .int pp, .int ee, .int mn] 0 0 (pv_R L f (tBestW (Z 0) pp ee mn)) := by
  refine pv_startI (cc := cX4_bestWitness) (maxL := 8) (ret := (some .int)) (by decide) rfl (Nat.le_of_ble_eq_true rfl) (fun A0 P0 E0 S0 M0 a0 B0 T0 C0 hC => ?_)
  refine pg_sub (vs' := [(0, .ref (x 12 2)), (1, .int pp), (2, .int ee), (3, .int mn)]) [0, 1, 2, 3] rfl ?_
  refine pg_iload_n (pc := 0) hC dX4_bestWitness_0 1 rfl rfl ?_
  refine pg_callSRi (pc := 1) (As := [.int pp]) (rest := []) hC dX4_bestWitness_1 (cX4_isPupil_c l pp) (va_cwS 1 hC.2.2.2.2.1 gX4_bestWitness_X4_isPupil rfl rfl rfl (by decide +kernel) ⟨Nat.le_of_ble_eq_true rfl, Nat.le_of_ble_eq_true rfl⟩) rfl rfl (Nat.le_of_ble_eq_true rfl) (Nat.zero_le _) (Nat.zero_le _) ?_
  refine pg_if_eq (pc := 4) hC 18 dX4_bestWitness_4 (by decide)  (fun c1 => ?_) (fun c1 => ?_)
  · skip
    refine pg_iconst (pc := 18) (v := (-1)) hC dX4_bestWitness_18 (by decide) ?_
    exact pg_iret (pc := 19) hC dX4_bestWitness_19 rfl ⟨(by simp [tBestW, c1]), rfl⟩
  · skip
    obtain ⟨p, hp, rfl⟩ := bW_nat (m := 9) rfl (by decide) c1
    have clp : cl (nI p) = p := cl_nI (by omega)
    refine pg_aload_n (pc := 7) hC dX4_bestWitness_7 0 rfl rfl ?_
    refine pgX_get0 (pc := 8) hC dX4_bestWitness_8 (List.mem_of_getElem? (i := 1) rfl) miX4_bestWitness_X4 hok ?_
    refine pg_iload_n (pc := 11) hC dX4_bestWitness_11 2 rfl rfl ?_
    refine pg_callVRi (pc := 12) (As := [.int ee]) (rest := []) hC dX4_bestWitness_12 (cX3_hasExcuse_c l (by decide) (ogI hok 0) ee) (cwV 1 hC.2.2.2.2.1 gX4_bestWitness_X3_hasExcuse rfl rfl rfl (by decide +kernel) ⟨Nat.le_of_ble_eq_true rfl, Nat.le_of_ble_eq_true rfl⟩) (ok_Sm (ogI hok 0) (by decide) 1 (by decide)) (og_So (ogI hok 0) (by decide)) rfl rfl rfl rfl (Nat.le_of_ble_eq_true rfl) (Nat.zero_le _) (Nat.zero_le _) ?_
    refine pg_if_ne (pc := 15) hC 20 dX4_bestWitness_15 (by decide)  (fun c2 => ?_) (fun c2 => ?_)
    · skip
      obtain ⟨e, he, rfl⟩ := bH_nat hn (by omega) c2
      have cle : cl (nI e) = e := cl_nI (by omega)
      refine pg_iload_n (pc := 20) hC dX4_bestWitness_20 3 rfl rfl ?_
      refine pg_iconst (pc := 21) (v := 1) hC dX4_bestWitness_21 (by decide) ?_
      refine pg_bipush (pc := 22) (v := 99) hC dX4_bestWitness_22 (by decide) ?_
      refine pg_callSRi (pc := 24) (As := [.int mn, .int 1, .int 99]) (rest := []) hC dX4_bestWitness_24 (cX4_isWithin_c l mn 1 99) (va_cwS 3 hC.2.2.2.2.1 gX4_bestWitness_X4_isWithin rfl rfl rfl (by decide +kernel) ⟨Nat.le_of_ble_eq_true rfl, Nat.le_of_ble_eq_true rfl⟩) rfl rfl (Nat.le_of_ble_eq_true rfl) (Nat.zero_le _) (Nat.zero_le _) ?_
      refine pg_if_ne (pc := 27) hC 33 dX4_bestWitness_27 (by decide)  (fun c3 => ?_) (fun c3 => ?_)
      · skip
        refine pg_bipush (pc := 33) (v := (-6)) hC dX4_bestWitness_33 (by decide) ?_
        refine pg_istore (pc := 35) (vs' := [(4, .int (-6)), (0, .ref (x 12 2)), (1, .int (nI p)), (2, .int (nI e)), (3, .int mn)]) hC dX4_bestWitness_35 (by decide) rfl ?_
        refine pg_iconst (pc := 37) (v := 0) hC dX4_bestWitness_37 (by decide) ?_
        refine pg_istore (pc := 38) (vs' := [(5, .int 0), (4, .int (-6)), (0, .ref (x 12 2)), (1, .int (nI p)), (2, .int (nI e)), (3, .int mn)]) hC dX4_bestWitness_38 (by decide) rfl ?_
        refine pg_iconst (pc := 40) (v := 0) hC dX4_bestWitness_40 (by decide) ?_
        refine pg_istore (pc := 41) (vs' := [(6, .int 0), (5, .int 0), (4, .int (-6)), (0, .ref (x 12 2)), (1, .int (nI p)), (2, .int (nI e)), (3, .int mn)]) hC dX4_bestWitness_41 (by decide) rfl ?_
        refine pg_sub (vs' := [(0, .ref (x 12 2)), (1, .int (nI p)), (2, .int (nI e)), (3, .int mn), (4, .int (-6)), (5, .int 0), (6, .int 0)]) [3, 4, 5, 6, 2, 1, 0] rfl ?_
        refine pg_loop (pc := 43) (σ := Nat) (I := fun q => match q with | k => k ≤ 10) (μ := fun q => match q with | k => 10 - k) (VS := fun q => match q with | k => [(0, .ref (x 12 2)), (1, .int (nI p)), (2, .int (nI e)), (3, .int mn), (4, .int ((sBW (Z 0) p e mn k).1)), (5, .int ((sBW (Z 0) p e mn k).2)), (6, .int (nI k))]) (FF := fun q => match q with | k => f) ?_ (0) (Nat.zero_le _)
        intro q hI ih4
        obtain ⟨k, rfl⟩ : ∃ z, z = q := ⟨_, rfl⟩
        dsimp only at hI ih4 ⊢
        have hI2 := hI
        obtain hk := hI
        refine pg_iload (pc := 43) hC dX4_bestWitness_43 6 rfl ?_
        refine pg_bipush (pc := 45) (v := 10) hC dX4_bestWitness_45 (by decide) ?_
        refine pg_icmp_geN (pc := 47) hC 111 dX4_bestWitness_47 (by decide) (k) (10) rfl rfl (by omega) (by omega) (fun c5 => ?_) (fun c5 => ?_)
        · skip
          refine pg_iload (pc := 111) hC dX4_bestWitness_111 4 rfl ?_
          exact pg_iret (pc := 113) hC dX4_bestWitness_113 rfl ⟨(by rw [show k = 10 by omega]; simp [tBestW, c1, c2, c3, clp, cle]), rfl⟩
        · skip
          refine pg_iload (pc := 50) hC dX4_bestWitness_50 6 rfl ?_
          refine pg_iload_n (pc := 52) hC dX4_bestWitness_52 1 rfl rfl ?_
          refine pg_icmp_eqN (pc := 53) hC 105 dX4_bestWitness_53 (by decide) (k) (p) rfl rfl (by omega) (by omega) (fun c6 => ?_) (fun c6 => ?_)
          · skip
            refine pg_iinc (pc := 105) (v := nI (k + 1)) (vs' := [(6, .int (nI (k + 1))), (0, .ref (x 12 2)), (1, .int (nI p)), (2, .int (nI e)), (3, .int mn), (4, .int ((sBW (Z 0) p e mn k).1)), (5, .int ((sBW (Z 0) p e mn k).2))]) hC dX4_bestWitness_105 6 rfl (nI_add (k) 1) (by decide) rfl ?_
            refine pg_goto (pc := 108) hC 43 dX4_bestWitness_108 (by decide) ?_
            refine pg_sub (vs' := [(0, .ref (x 12 2)), (1, .int (nI p)), (2, .int (nI e)), (3, .int mn), (4, .int ((sBW (Z 0) p e mn k).1)), (5, .int ((sBW (Z 0) p e mn k).2)), (6, .int (nI (k + 1)))]) [1, 2, 3, 4, 5, 6, 0] rfl ?_
            refine pg_vs (vs' := [(0, .ref (x 12 2)), (1, .int (nI p)), (2, .int (nI e)), (3, .int mn), (4, .int ((sBW (Z 0) p e mn (k + 1)).1)), (5, .int ((sBW (Z 0) p e mn (k + 1)).2)), (6, .int (nI (k + 1)))]) (by rw [show sBW (Z 0) p e mn (k + 1) = sBW (Z 0) p e mn k from by simp [sBW, c1, c2, c3, c5, c6, clp, cle]]) ?_
            exact ih4 (k + 1) (by omega) (by omega)
          · skip
            refine pg_aload_n (pc := 56) hC dX4_bestWitness_56 0 rfl rfl ?_
            refine pgX_get0 (pc := 57) hC dX4_bestWitness_57 (List.mem_of_getElem? (i := 1) rfl) miX4_bestWitness_X4 hok ?_
            refine pgS_geta (pc := 60) hC dX4_bestWitness_60 6 (List.mem_of_getElem? (i := 2) rfl) miX4_bestWitness_X3 (ogI hok 0) (by decide) (by decide) (by decide) rfl ?_
            refine pg_iload (pc := 63) hC dX4_bestWitness_63 6 rfl ?_
            refine pgS_iald (pc := 65) (v := Z 0 6 k) hC dX4_bestWitness_65 6 (k) (ogI hok 0) (by decide) (by decide) (by decide) rfl (show k < 10 by omega) rfl ?_
            refine pg_if_le (pc := 66) hC 105 dX4_bestWitness_66 (by decide)  (fun c7 => ?_) (fun c7 => ?_)
            · skip
              refine pg_iinc (pc := 105) (v := nI (k + 1)) (vs' := [(6, .int (nI (k + 1))), (0, .ref (x 12 2)), (1, .int (nI p)), (2, .int (nI e)), (3, .int mn), (4, .int ((sBW (Z 0) p e mn k).1)), (5, .int ((sBW (Z 0) p e mn k).2))]) hC dX4_bestWitness_105 6 rfl (nI_add (k) 1) (by decide) rfl ?_
              refine pg_goto (pc := 108) hC 43 dX4_bestWitness_108 (by decide) ?_
              refine pg_sub (vs' := [(0, .ref (x 12 2)), (1, .int (nI p)), (2, .int (nI e)), (3, .int mn), (4, .int ((sBW (Z 0) p e mn k).1)), (5, .int ((sBW (Z 0) p e mn k).2)), (6, .int (nI (k + 1)))]) [1, 2, 3, 4, 5, 6, 0] rfl ?_
              refine pg_vs (vs' := [(0, .ref (x 12 2)), (1, .int (nI p)), (2, .int (nI e)), (3, .int mn), (4, .int ((sBW (Z 0) p e mn (k + 1)).1)), (5, .int ((sBW (Z 0) p e mn (k + 1)).2)), (6, .int (nI (k + 1)))]) (by rw [show sBW (Z 0) p e mn (k + 1) = sBW (Z 0) p e mn k from by simp [sBW, c1, c2, c3, c5, c6, c7, clp, cle]]) ?_
              exact ih4 (k + 1) (by omega) (by omega)
            · skip
              refine pg_aload_n (pc := 69) hC dX4_bestWitness_69 0 rfl rfl ?_
              refine pgX_get0 (pc := 70) hC dX4_bestWitness_70 (List.mem_of_getElem? (i := 1) rfl) miX4_bestWitness_X4 hok ?_
              refine pg_iload_n (pc := 73) hC dX4_bestWitness_73 1 rfl rfl ?_
              refine pg_iload_n (pc := 74) hC dX4_bestWitness_74 2 rfl rfl ?_
              refine pg_iload (pc := 75) hC dX4_bestWitness_75 6 rfl ?_
              refine pg_iload_n (pc := 77) hC dX4_bestWitness_77 3 rfl rfl ?_
              refine pg_callVRi (pc := 78) (As := [.int (nI p), .int (nI e), .int (nI k), .int mn]) (rest := []) hC dX4_bestWitness_78 (cX3_weightOf_c l (by decide) (ogI hok 0) (p) (e) (by omega) (by omega) (nI k) (Or.inr ⟨k, by omega, rfl⟩) mn) (cwV 4 hC.2.2.2.2.1 gX4_bestWitness_X3_weightOf rfl rfl rfl (by decide +kernel) ⟨Nat.le_of_ble_eq_true rfl, Nat.le_of_ble_eq_true rfl⟩) (ok_Sm (ogI hok 0) (by decide) 1 (by decide)) (og_So (ogI hok 0) (by decide)) rfl rfl rfl rfl (Nat.le_of_ble_eq_true rfl) (Nat.zero_le _) (Nat.zero_le _) ?_
              refine pg_istore (pc := 81) (vs' := [(7, .int (sWt (Z 0) (p) (e) (nI k) mn)), (0, .ref (x 12 2)), (1, .int (nI p)), (2, .int (nI e)), (3, .int mn), (4, .int ((sBW (Z 0) p e mn k).1)), (5, .int ((sBW (Z 0) p e mn k).2)), (6, .int (nI k))]) hC dX4_bestWitness_81 (by decide) rfl ?_
              refine pg_iload (pc := 83) hC dX4_bestWitness_83 5 rfl ?_
              refine pg_bipush (pc := 85) (v := (-6)) hC dX4_bestWitness_85 (by decide) ?_
              refine pg_icmp_eq (pc := 87) hC 97 dX4_bestWitness_87 (by decide)  (fun c8 => ?_) (fun c8 => ?_)
              · skip
                refine pg_iload (pc := 97) hC dX4_bestWitness_97 7 rfl ?_
                refine pg_istore (pc := 99) (vs' := [(4, .int (nI k)), (7, .int (sWt (Z 0) (p) (e) (nI k) mn)), (0, .ref (x 12 2)), (1, .int (nI p)), (2, .int (nI e)), (3, .int mn), (5, .int ((sBW (Z 0) p e mn k).2)), (6, .int (nI k))]) hC dX4_bestWitness_99 (by decide) rfl ?_
                refine pg_iload (pc := 101) hC dX4_bestWitness_101 1 rfl ?_
                refine pg_istore (pc := 103) (vs' := [(5, .int (sWt (Z 0) (p) (e) (nI k) mn)), (4, .int (nI k)), (7, .int (sWt (Z 0) (p) (e) (nI k) mn)), (0, .ref (x 12 2)), (1, .int (nI p)), (2, .int (nI e)), (3, .int mn), (6, .int (nI k))]) hC dX4_bestWitness_103 (by decide) rfl ?_
                refine pg_iinc (pc := 105) (v := nI (k + 1)) (vs' := [(6, .int (nI (k + 1))), (5, .int (sWt (Z 0) (p) (e) (nI k) mn)), (4, .int (nI k)), (7, .int (sWt (Z 0) (p) (e) (nI k) mn)), (0, .ref (x 12 2)), (1, .int (nI p)), (2, .int (nI e)), (3, .int mn)]) hC dX4_bestWitness_105 7 rfl (nI_add (k) 1) (by decide) rfl ?_
                refine pg_goto (pc := 108) hC 43 dX4_bestWitness_108 (by decide) ?_
                refine pg_sub (vs' := [(0, .ref (x 12 2)), (1, .int (nI p)), (2, .int (nI e)), (3, .int mn), (4, .int (nI k)), (5, .int (sWt (Z 0) (p) (e) (nI k) mn)), (6, .int (nI (k + 1)))]) [4, 5, 6, 7, 2, 1, 0] rfl ?_
                refine pg_vs (vs' := [(0, .ref (x 12 2)), (1, .int (nI p)), (2, .int (nI e)), (3, .int mn), (4, .int ((sBW (Z 0) p e mn (k + 1)).1)), (5, .int ((sBW (Z 0) p e mn (k + 1)).2)), (6, .int (nI (k + 1)))]) (by rw [show sBW (Z 0) p e mn (k + 1) = (nI k, sWt (Z 0) (p) (e) (nI k) mn) from by simp [sBW, c1, c2, c3, c5, c6, c7, c8, clp, cle]]) ?_
                exact ih4 (k + 1) (by omega) (by omega)
              · skip
                refine pg_iload (pc := 90) hC dX4_bestWitness_90 0 rfl ?_
                refine pg_iload (pc := 92) hC dX4_bestWitness_92 6 rfl ?_
                refine pg_icmp_le (pc := 94) hC 105 dX4_bestWitness_94 (by decide)  (fun c9 => ?_) (fun c9 => ?_)
                · skip
                  refine pg_iinc (pc := 105) (v := nI (k + 1)) (vs' := [(6, .int (nI (k + 1))), (7, .int (sWt (Z 0) (p) (e) (nI k) mn)), (0, .ref (x 12 2)), (1, .int (nI p)), (2, .int (nI e)), (3, .int mn), (4, .int ((sBW (Z 0) p e mn k).1)), (5, .int ((sBW (Z 0) p e mn k).2))]) hC dX4_bestWitness_105 7 rfl (nI_add (k) 1) (by decide) rfl ?_
                  refine pg_goto (pc := 108) hC 43 dX4_bestWitness_108 (by decide) ?_
                  refine pg_sub (vs' := [(0, .ref (x 12 2)), (1, .int (nI p)), (2, .int (nI e)), (3, .int mn), (4, .int ((sBW (Z 0) p e mn k).1)), (5, .int ((sBW (Z 0) p e mn k).2)), (6, .int (nI (k + 1)))]) [2, 3, 4, 5, 6, 7, 0] rfl ?_
                  refine pg_vs (vs' := [(0, .ref (x 12 2)), (1, .int (nI p)), (2, .int (nI e)), (3, .int mn), (4, .int ((sBW (Z 0) p e mn (k + 1)).1)), (5, .int ((sBW (Z 0) p e mn (k + 1)).2)), (6, .int (nI (k + 1)))]) (by rw [show sBW (Z 0) p e mn (k + 1) = sBW (Z 0) p e mn k from by simp [sBW, c1, c2, c3, c5, c6, c7, c8, c9, clp, cle]]) ?_
                  exact ih4 (k + 1) (by omega) (by omega)
                · skip
                  refine pg_iload (pc := 97) hC dX4_bestWitness_97 7 rfl ?_
                  refine pg_istore (pc := 99) (vs' := [(4, .int (nI k)), (7, .int (sWt (Z 0) (p) (e) (nI k) mn)), (0, .ref (x 12 2)), (1, .int (nI p)), (2, .int (nI e)), (3, .int mn), (5, .int ((sBW (Z 0) p e mn k).2)), (6, .int (nI k))]) hC dX4_bestWitness_99 (by decide) rfl ?_
                  refine pg_iload (pc := 101) hC dX4_bestWitness_101 1 rfl ?_
                  refine pg_istore (pc := 103) (vs' := [(5, .int (sWt (Z 0) (p) (e) (nI k) mn)), (4, .int (nI k)), (7, .int (sWt (Z 0) (p) (e) (nI k) mn)), (0, .ref (x 12 2)), (1, .int (nI p)), (2, .int (nI e)), (3, .int mn), (6, .int (nI k))]) hC dX4_bestWitness_103 (by decide) rfl ?_
                  refine pg_iinc (pc := 105) (v := nI (k + 1)) (vs' := [(6, .int (nI (k + 1))), (5, .int (sWt (Z 0) (p) (e) (nI k) mn)), (4, .int (nI k)), (7, .int (sWt (Z 0) (p) (e) (nI k) mn)), (0, .ref (x 12 2)), (1, .int (nI p)), (2, .int (nI e)), (3, .int mn)]) hC dX4_bestWitness_105 7 rfl (nI_add (k) 1) (by decide) rfl ?_
                  refine pg_goto (pc := 108) hC 43 dX4_bestWitness_108 (by decide) ?_
                  refine pg_sub (vs' := [(0, .ref (x 12 2)), (1, .int (nI p)), (2, .int (nI e)), (3, .int mn), (4, .int (nI k)), (5, .int (sWt (Z 0) (p) (e) (nI k) mn)), (6, .int (nI (k + 1)))]) [4, 5, 6, 7, 2, 1, 0] rfl ?_
                  refine pg_vs (vs' := [(0, .ref (x 12 2)), (1, .int (nI p)), (2, .int (nI e)), (3, .int mn), (4, .int ((sBW (Z 0) p e mn (k + 1)).1)), (5, .int ((sBW (Z 0) p e mn (k + 1)).2)), (6, .int (nI (k + 1)))]) (by rw [show sBW (Z 0) p e mn (k + 1) = (nI k, sWt (Z 0) (p) (e) (nI k) mn) from by simp [sBW, c1, c2, c3, c5, c6, c7, c8, c9, clp, cle]]) ?_
                  exact ih4 (k + 1) (by omega) (by omega)
      · skip
        refine pg_bipush (pc := 30) (v := (-2)) hC dX4_bestWitness_30 (by decide) ?_
        exact pg_iret (pc := 32) hC dX4_bestWitness_32 rfl ⟨(by simp [tBestW, c1, c2, c3, clp, cle]), rfl⟩
    · skip
      refine pg_iconst (pc := 18) (v := (-1)) hC dX4_bestWitness_18 (by decide) ?_
      exact pg_iret (pc := 19) hC dX4_bestWitness_19 rfl ⟨(by simp [tBestW, c1, c2, clp]), rfl⟩
abbrev rmX4_mostMinutes : Room := { frames := 4, cells := 0, slots := 0, locals := 95 }
theorem miX4_mostMinutes_X4 : ∀ w ∈ wsX40, w ∈ wsX4_mostMinutes := fun _ h => List.mem_cons_of_mem _ (List.mem_append_left _ (List.mem_append_right _ h))
set_option maxHeartbeats 2000000 in
set_option maxRecDepth 20000 in
theorem cX4_mostMinutes_c (l : Launch) {κ : pv_Kt} {L : List Nat} {f : Nat → va_E} {x : Nat → Nat → Nat} {Z : Nat → Nat → Nat → Int32} (hok : pv_ok κ x L f Z) (n : Nat) (hn : Z 0 1 0 = nI n) (hn12 : n ≤ 12) (pp ee : Int32) : pv_Mi l κ yX4_mostMinutes wsX4_mostMinutes rmX4_mostMinutes L f [.ref (x 12 2), .int pp, .int ee] 0 0 (pv_R L f (tMost (Z 0) pp ee)) := by
  refine pv_startI (cc := cX4_mostMinutes) (maxL := 4) (ret := (some .int)) (by decide) rfl (Nat.le_of_ble_eq_true rfl) (fun A0 P0 E0 S0 M0 a0 B0 T0 C0 hC => ?_)
  refine pg_sub (vs' := [(0, .ref (x 12 2)), (1, .int pp), (2, .int ee)]) [0, 1, 2] rfl ?_
  refine pg_iload_n (pc := 0) hC dX4_mostMinutes_0 1 rfl rfl ?_
  refine pg_callSRi (pc := 1) (As := [.int pp]) (rest := []) hC dX4_mostMinutes_1 (cX4_isPupil_c l pp) (va_cwS 1 hC.2.2.2.2.1 gX4_mostMinutes_X4_isPupil rfl rfl rfl (by decide +kernel) ⟨Nat.le_of_ble_eq_true rfl, Nat.le_of_ble_eq_true rfl⟩) rfl rfl (Nat.le_of_ble_eq_true rfl) (Nat.zero_le _) (Nat.zero_le _) ?_
  refine pg_if_eq (pc := 4) hC 18 dX4_mostMinutes_4 (by decide)  (fun c1 => ?_) (fun c1 => ?_)
  · skip
    refine pg_iconst (pc := 18) (v := (-1)) hC dX4_mostMinutes_18 (by decide) ?_
    exact pg_iret (pc := 19) hC dX4_mostMinutes_19 rfl ⟨(by simp [tMost, c1]), rfl⟩
  · skip
    obtain ⟨p, hp, rfl⟩ := bW_nat (m := 9) rfl (by decide) c1
    have clp : cl (nI p) = p := cl_nI (by omega)
    refine pg_aload_n (pc := 7) hC dX4_mostMinutes_7 0 rfl rfl ?_
    refine pgX_get0 (pc := 8) hC dX4_mostMinutes_8 (List.mem_of_getElem? (i := 1) rfl) miX4_mostMinutes_X4 hok ?_
    refine pg_iload_n (pc := 11) hC dX4_mostMinutes_11 2 rfl rfl ?_
    refine pg_callVRi (pc := 12) (As := [.int ee]) (rest := []) hC dX4_mostMinutes_12 (cX3_hasExcuse_c l (by decide) (ogI hok 0) ee) (cwV 1 hC.2.2.2.2.1 gX4_mostMinutes_X3_hasExcuse rfl rfl rfl (by decide +kernel) ⟨Nat.le_of_ble_eq_true rfl, Nat.le_of_ble_eq_true rfl⟩) (ok_Sm (ogI hok 0) (by decide) 1 (by decide)) (og_So (ogI hok 0) (by decide)) rfl rfl rfl rfl (Nat.le_of_ble_eq_true rfl) (Nat.zero_le _) (Nat.zero_le _) ?_
    refine pg_if_ne (pc := 15) hC 20 dX4_mostMinutes_15 (by decide)  (fun c2 => ?_) (fun c2 => ?_)
    · skip
      obtain ⟨e, he, rfl⟩ := bH_nat hn (by omega) c2
      have cle : cl (nI e) = e := cl_nI (by omega)
      refine pg_bipush (pc := 20) (v := 99) hC dX4_mostMinutes_20 (by decide) ?_
      refine pg_istore_n (pc := 22) (vs' := [(3, .int 99), (0, .ref (x 12 2)), (1, .int (nI p)), (2, .int (nI e))]) hC dX4_mostMinutes_22 rfl (by decide) rfl ?_
      refine pg_sub (vs' := [(0, .ref (x 12 2)), (1, .int (nI p)), (2, .int (nI e)), (3, .int 99)]) [1, 2, 3, 0] rfl ?_
      refine pg_loop (pc := 23) (σ := Nat) (I := fun q => match q with | k => k ≤ 99 ∧ sMM (Z 0) p e 99 = sMM (Z 0) p e k) (μ := fun q => match q with | k => k) (VS := fun q => match q with | k => [(0, .ref (x 12 2)), (1, .int (nI p)), (2, .int (nI e)), (3, .int (nI k))]) (FF := fun q => match q with | k => f) ?_ (99) ⟨by decide, rfl⟩
      intro q hI ih3
      obtain ⟨k, rfl⟩ : ∃ z, z = q := ⟨_, rfl⟩
      dsimp only at hI ih3 ⊢
      have hI2 := hI
      obtain ⟨hk, hF⟩ := hI
      refine pg_iload_n (pc := 23) hC dX4_mostMinutes_23 3 rfl rfl ?_
      refine pg_iconst (pc := 24) (v := 1) hC dX4_mostMinutes_24 (by decide) ?_
      refine pg_icmp_ltN (pc := 25) hC 51 dX4_mostMinutes_25 (by decide) (k) (1) rfl rfl (by omega) (by omega) (fun c4 => ?_) (fun c4 => ?_)
      · skip
        refine pg_bipush (pc := 51) (v := (-6)) hC dX4_mostMinutes_51 (by decide) ?_
        exact pg_iret (pc := 53) hC dX4_mostMinutes_53 rfl ⟨(by simp only [tMost, c1, c2, clp, cle, if_true, if_false, not_false_eq_true]; rw [hF, show k = 0 by omega]; rfl), rfl⟩
      · skip
        obtain ⟨j, rfl⟩ : ∃ j, k = j + 1 := ⟨k - 1, by omega⟩
        refine pg_aload_n (pc := 28) hC dX4_mostMinutes_28 0 rfl rfl ?_
        refine pgX_get0 (pc := 29) hC dX4_mostMinutes_29 (List.mem_of_getElem? (i := 1) rfl) miX4_mostMinutes_X4 hok ?_
        refine pg_iload_n (pc := 32) hC dX4_mostMinutes_32 1 rfl rfl ?_
        refine pg_iload_n (pc := 33) hC dX4_mostMinutes_33 2 rfl rfl ?_
        refine pg_bipush (pc := 34) (v := (-6)) hC dX4_mostMinutes_34 (by decide) ?_
        refine pg_iload_n (pc := 36) hC dX4_mostMinutes_36 3 rfl rfl ?_
        refine pg_callVRi (pc := 37) (As := [.int (nI p), .int (nI e), .int (-6), .int (nI (j + 1))]) (rest := []) hC dX4_mostMinutes_37 (cX3_reasonAgainst_c l (by decide) (ogI hok 0) (p) (e) (by omega) (by omega) (-6) (Or.inl rfl) (nI (j + 1))) (cwV 4 hC.2.2.2.2.1 gX4_mostMinutes_X3_reasonAgainst rfl rfl rfl (by decide +kernel) ⟨Nat.le_of_ble_eq_true rfl, Nat.le_of_ble_eq_true rfl⟩) (ok_Sm (ogI hok 0) (by decide) 1 (by decide)) (og_So (ogI hok 0) (by decide)) rfl rfl rfl rfl (Nat.le_of_ble_eq_true rfl) (Nat.zero_le _) (Nat.zero_le _) ?_
        refine pg_if_ne (pc := 40) hC 45 dX4_mostMinutes_40 (by decide)  (fun c5 => ?_) (fun c5 => ?_)
        · skip
          refine pg_iinc (pc := 45) (v := nI j) (vs' := [(3, .int (nI j)), (0, .ref (x 12 2)), (1, .int (nI p)), (2, .int (nI e))]) hC dX4_mostMinutes_45 3 rfl (pk_m1 (j)) (by decide) rfl ?_
          refine pg_goto (pc := 48) hC 23 dX4_mostMinutes_48 (by decide) ?_
          refine pg_sub (vs' := [(0, .ref (x 12 2)), (1, .int (nI p)), (2, .int (nI e)), (3, .int (nI j))]) [1, 2, 3, 0] rfl ?_
          exact ih3 (j) ⟨by omega, hF.trans (by simp [sMM, c5])⟩ (by omega)
        · skip
          refine pg_iload_n (pc := 43) hC dX4_mostMinutes_43 3 rfl rfl ?_
          exact pg_iret (pc := 44) hC dX4_mostMinutes_44 rfl ⟨(by simp only [tMost, c1, c2, clp, cle, if_true, if_false, not_false_eq_true]; rw [hF]; simp [sMM, c5]), rfl⟩
    · skip
      refine pg_iconst (pc := 18) (v := (-1)) hC dX4_mostMinutes_18 (by decide) ?_
      exact pg_iret (pc := 19) hC dX4_mostMinutes_19 rfl ⟨(by simp [tMost, c1, c2, clp]), rfl⟩
abbrev rmX4_wipe : Room := { frames := 0, cells := 0, slots := 0, locals := 0 }
theorem miX4_wipe_X1 : ∀ w ∈ wsX10, w ∈ wsX4_wipe := fun _ h => List.mem_cons_of_mem _ (List.mem_append_right _ h)
theorem miX4_wipe_X4 : ∀ w ∈ wsX40, w ∈ wsX4_wipe := fun _ h => List.mem_cons_of_mem _ (List.mem_append_left _ (List.mem_append_right _ h))
set_option maxHeartbeats 2000000 in
set_option maxRecDepth 20000 in
theorem cX4_wipe_c (l : Launch) {κ : pv_Kt} {L : List Nat} {f : Nat → va_E} {x : Nat → Nat → Nat} {Z : Nat → Nat → Nat → Int32} (hok : pv_ok κ x L f Z)  : pv_Mi l κ yX4_wipe wsX4_wipe rmX4_wipe L f [.ref (x 12 2)] 0 0 (pv_Wi κ x L (va_up Z 9 (zu (Z 9) 1 0 0)) (Z 9 1 0)) := by
  refine pv_startI (cc := cX4_wipe) (maxL := 2) (ret := (some .int)) (by decide) rfl (Nat.le_of_ble_eq_true rfl) (fun A0 P0 E0 S0 M0 a0 B0 T0 C0 hC => ?_)
  refine pg_sub (vs' := [(0, .ref (x 12 2))]) [0] rfl ?_
  refine pg_aload_n (pc := 0) hC dX4_wipe_0 0 rfl rfl ?_
  refine pgX_get4 (pc := 1) hC dX4_wipe_1 (List.mem_of_getElem? (i := 1) rfl) miX4_wipe_X4 hok ?_
  refine pgP_geti (pc := 4) (v := Z 9 1 0) hC dX4_wipe_4 1 (List.mem_of_getElem? (i := 2) rfl) miX4_wipe_X1 (ogI hok 9) (by decide) rfl ?_
  refine pg_istore_n (pc := 7) (vs' := [(1, .int (Z 9 1 0)), (0, .ref (x 12 2))]) hC dX4_wipe_7 rfl (by decide) rfl ?_
  refine pg_aload_n (pc := 8) hC dX4_wipe_8 1 rfl rfl ?_
  refine pgX_get4 (pc := 9) hC dX4_wipe_9 (List.mem_of_getElem? (i := 1) rfl) miX4_wipe_X4 hok ?_
  refine pg_iconst (pc := 12) (v := 0) hC dX4_wipe_12 (by decide) ?_
  have hok1 := ogI hok 9
  refine pgP_puti (pc := 13) hC dX4_wipe_13 1 (List.mem_of_getElem? (i := 2) rfl) miX4_wipe_X1 hok1 (by decide) (fun f1 hokw1 => ?_)
  refine pg_iload_n (pc := 16) hC dX4_wipe_16 0 rfl rfl ?_
  exact pg_iret (pc := 17) hC dX4_wipe_17 rfl ⟨rfl, rfl, hokw1⟩
abbrev rmX4_undo : Room := { frames := 4, cells := 0, slots := 0, locals := 103 }
theorem miX4_undo_X0 : ∀ w ∈ wsX00, w ∈ wsX4_undo := fun _ h => List.mem_cons_of_mem _ (List.mem_append_left _ (List.mem_append_right _ h))
theorem miX4_undo_X4 : ∀ w ∈ wsX40, w ∈ wsX4_undo := fun _ h => List.mem_cons_of_mem _ (List.mem_append_left _ (List.mem_append_left _ (List.mem_append_right _ h)))
set_option maxHeartbeats 2000000 in
set_option maxRecDepth 20000 in
theorem cX4_undo_c (l : Launch) {κ : pv_Kt} {L : List Nat} {f : Nat → va_E} {x : Nat → Nat → Nat} {Z : Nat → Nat → Nat → Int32} (hok : pv_ok κ x L f Z) (nx kp : Nat) (hnx : Z 12 1 0 = nI nx) (hnx6 : nx < 6) (hkp : Z 12 2 0 = nI kp) (hkp6 : kp ≤ 6)  : pv_Mi l κ yX4_undo wsX4_undo rmX4_undo L f [.ref (x 12 2)] 0 0 (pv_Wi κ x L (tUndoZ Z nx kp) (tUndo kp)) := by
  refine pv_startI (cc := cX4_undo) (maxL := 1) (ret := (some .int)) (by decide) rfl (Nat.le_of_ble_eq_true rfl) (fun A0 P0 E0 S0 M0 a0 B0 T0 C0 hC => ?_)
  refine pg_sub (vs' := [(0, .ref (x 12 2))]) [0] rfl ?_
  refine pg_aload_n (pc := 0) hC dX4_undo_0 0 rfl rfl ?_
  refine pgX_get1 (pc := 1) hC dX4_undo_1 (List.mem_of_getElem? (i := 1) rfl) miX4_undo_X4 hok ?_
  refine pgH_geti (pc := 4) (v := nI kp) hC dX4_undo_4 2 (List.mem_of_getElem? (i := 2) rfl) miX4_undo_X0 (ogI hok 12) (by decide) hkp ?_
  refine pg_if_ne (pc := 7) hC 13 dX4_undo_7 (by decide)  (fun c1 => ?_) (fun c1 => ?_)
  · skip
    have hkp1 : 1 ≤ kp := by rcases Nat.eq_zero_or_pos kp with q | q; (subst q; exact absurd rfl c1); exact q
    refine pg_aload_n (pc := 13) hC dX4_undo_13 0 rfl rfl ?_
    refine pgX_get1 (pc := 14) hC dX4_undo_14 (List.mem_of_getElem? (i := 1) rfl) miX4_undo_X4 hok ?_
    refine pg_aload_n (pc := 17) hC dX4_undo_17 0 rfl rfl ?_
    refine pgX_get0 (pc := 18) hC dX4_undo_18 (List.mem_of_getElem? (i := 3) rfl) miX4_undo_X4 hok ?_
    refine pg_callVWv (pc := 21) (As := [.ref (x 0 1)]) (rest := []) hC dX4_undo_21 (cX0_takeBack_c l hok nx kp hnx hnx6 hkp hkp1) (cwV 1 hC.2.2.2.2.1 gX4_undo_X0_takeBack rfl rfl rfl (by decide +kernel) ⟨Nat.le_of_ble_eq_true rfl, Nat.le_of_ble_eq_true rfl⟩) (ok_mem hok (by decide)) (ok_Ho hok) rfl rfl rfl rfl (Nat.le_of_ble_eq_true rfl) (Nat.zero_le _) (Nat.zero_le _) (fun f1 hokw1 => ?_)
    refine pg_aload_n (pc := 24) hC dX4_undo_24 0 rfl rfl ?_
    refine pgX_get1 (pc := 25) hC dX4_undo_25 (List.mem_of_getElem? (i := 1) rfl) miX4_undo_X4 hokw1 ?_
    refine pgH_geti (pc := 28) (v := nI (kp - 1)) hC dX4_undo_28 2 (List.mem_of_getElem? (i := 2) rfl) miX4_undo_X0 (ogI hokw1 12) (by decide) (sBack_kept Z nx kp) ?_
    exact pg_iret (pc := 31) hC dX4_undo_31 rfl ⟨(by first | rfl | (simp [tUndo, (show ¬ kp = 0 by omega)]; done) | (simp_all [tUndo]; done)), rfl, (by rw [show tUndoZ Z nx kp = (sBack Z nx kp) from by (first | rfl | (simp [tUndoZ, (show ¬ kp = 0 by omega)]; done))]; exact hokw1)⟩
  · skip
    have hkp0 : kp = 0 := (nI_eq (b := 0) (by omega) (by decide)).mp c1
    refine pg_bipush (pc := 10) (v := (-5)) hC dX4_undo_10 (by decide) ?_
    exact pg_iret (pc := 12) hC dX4_undo_12 rfl ⟨(by first | rfl | (simp [tUndo, hkp0]; done) | (simp_all [tUndo]; done)), rfl, (by rw [show tUndoZ Z nx kp = Z from by (first | rfl | (simp [tUndoZ, hkp0]; done))]; exact hok)⟩
abbrev rmX4_save : Room := { frames := 3, cells := 0, slots := 0, locals := 82 }
theorem miX4_save_X3 : ∀ w ∈ wsX30, w ∈ wsX4_save := fun _ h => List.mem_cons_of_mem _ (List.mem_append_right _ h)
theorem miX4_save_X4 : ∀ w ∈ wsX40, w ∈ wsX4_save := fun _ h => List.mem_cons_of_mem _ (List.mem_append_left _ (List.mem_append_right _ h))
set_option maxHeartbeats 2000000 in
set_option maxRecDepth 20000 in
theorem cX4_save_c (l : Launch) {κ : pv_Kt} {L : List Nat} {f : Nat → va_E} {x : Nat → Nat → Nat} {Z : Nat → Nat → Nat → Int32} (hok : pv_ok κ x L f Z) (sl : Int32) : pv_Mi l κ yX4_save wsX4_save rmX4_save L f [.ref (x 12 2), .int sl] 0 0 (pv_Wi κ x L (tSaveZ Z sl) (tSave (Z 0) sl)) := by
  refine pv_startI (cc := cX4_save) (maxL := 2) (ret := (some .int)) (by decide) rfl (Nat.le_of_ble_eq_true rfl) (fun A0 P0 E0 S0 M0 a0 B0 T0 C0 hC => ?_)
  refine pg_sub (vs' := [(0, .ref (x 12 2)), (1, .int sl)]) [0, 1] rfl ?_
  refine pg_iload_n (pc := 0) hC dX4_save_0 1 rfl rfl ?_
  refine pg_iconst (pc := 1) (v := 0) hC dX4_save_1 (by decide) ?_
  refine pg_iconst (pc := 2) (v := 1) hC dX4_save_2 (by decide) ?_
  refine pg_callSRi (pc := 3) (As := [.int sl, .int 0, .int 1]) (rest := []) hC dX4_save_3 (cX4_isWithin_c l sl 0 1) (va_cwS 3 hC.2.2.2.2.1 gX4_save_X4_isWithin rfl rfl rfl (by decide +kernel) ⟨Nat.le_of_ble_eq_true rfl, Nat.le_of_ble_eq_true rfl⟩) rfl rfl (Nat.le_of_ble_eq_true rfl) (Nat.zero_le _) (Nat.zero_le _) ?_
  refine pg_if_ne (pc := 6) hC 12 dX4_save_6 (by decide)  (fun c1 => ?_) (fun c1 => ?_)
  · skip
    obtain ⟨j, hj1, rfl⟩ := bW_nat (m := 1) rfl (by decide) c1
    have clj : cl (nI j) = j := cl_nI (by omega)
    refine pg_aload_n (pc := 12) hC dX4_save_12 0 rfl rfl ?_
    refine pgX_get2 (pc := 13) hC dX4_save_13 (List.mem_of_getElem? (i := 1) rfl) miX4_save_X4 hok ?_
    refine pg_iload_n (pc := 16) hC dX4_save_16 1 rfl rfl ?_
    refine pgX_aldq (pc := 17) hC dX4_save_17 (j) hok rfl (by omega) ?_
    refine pg_aload_n (pc := 18) hC dX4_save_18 0 rfl rfl ?_
    refine pgX_get0 (pc := 19) hC dX4_save_19 (List.mem_of_getElem? (i := 2) rfl) miX4_save_X4 hok ?_
    have hok2 := ogI hok (7 + j)
    refine pg_callVWv (pc := 22) (As := [.ref (x 0 1)]) (rest := []) hC dX4_save_22 (cX3_become_c l (by omega) (by decide) (by omega) hok2) (cwV 1 hC.2.2.2.2.1 gX4_save_X3_become rfl rfl rfl (by decide +kernel) ⟨Nat.le_of_ble_eq_true rfl, Nat.le_of_ble_eq_true rfl⟩) (ok_Sm hok2 (by omega) 1 (by decide)) (og_So hok2 (by omega)) rfl rfl rfl rfl (Nat.le_of_ble_eq_true rfl) (Nat.zero_le _) (Nat.zero_le _) (fun f1 hokw1 => ?_)
    refine pg_aload_n (pc := 25) hC dX4_save_25 0 rfl rfl ?_
    refine pgX_get3 (pc := 26) hC dX4_save_26 (List.mem_of_getElem? (i := 3) rfl) miX4_save_X4 hokw1 ?_
    refine pg_iload_n (pc := 29) hC dX4_save_29 1 rfl rfl ?_
    refine pg_iconst (pc := 30) (v := 1) hC dX4_save_30 (by decide) ?_
    have hok3 : pv_ok κ x L f1 (va_up (va_up Z (7 + j) (sBec (Z (7 + j)) (Z 0))) 12 (Z 12)) := by have q := ogI hokw1 12; rw [show (va_up Z (7 + j) (sBec (Z (7 + j)) (Z 0))) 12 = Z 12 from va_up_ne _ _ (by omega)] at q; exact q
    refine pgX_zast (pc := 31) hC dX4_save_31 (j) hok3 rfl (by omega) rfl (fun f2 hokw2 => ?_)
    refine pg_aload_n (pc := 32) hC dX4_save_32 0 rfl rfl ?_
    refine pgX_get0 (pc := 33) hC dX4_save_33 (List.mem_of_getElem? (i := 2) rfl) miX4_save_X4 hokw2 ?_
    refine pgS_geti (pc := 36) (v := Z 0 14 0) hC dX4_save_36 14 (List.mem_of_getElem? (i := 4) rfl) miX4_save_X3 (ogI hokw2 0) (by decide) (by decide) (by rw [va_up_ne (k := 12) (j := 0) _ _ (by decide), va_up_ne (k := 7 + j) (j := 0) _ _ (by omega)]) ?_
    exact pg_iret (pc := 39) hC dX4_save_39 rfl ⟨(by first | rfl | (simp [tSave, c1, clj]; done) | (simp_all [tSave]; done)), rfl, (by rw [show tSaveZ Z (nI j) = (va_up (va_up Z (7 + j) (sBec (Z (7 + j)) (Z 0))) 12 (zu (Z 12) 4 j 1)) from by (first | rfl | (simp [tSaveZ, c1, clj]; done))]; exact hokw2)⟩
  · skip
    refine pg_bipush (pc := 9) (v := (-2)) hC dX4_save_9 (by decide) ?_
    exact pg_iret (pc := 11) hC dX4_save_11 rfl ⟨(by first | rfl | (simp [tSave, c1]; done) | (simp_all [tSave]; done)), rfl, (by rw [show tSaveZ Z sl = Z from by (first | rfl | (simp [tSaveZ, c1]; done))]; exact hok)⟩
abbrev rmX4_restore : Room := { frames := 4, cells := 0, slots := 0, locals := 103 }
theorem miX4_restore_X3 : ∀ w ∈ wsX30, w ∈ wsX4_restore := fun _ h => List.mem_cons_of_mem _ (List.mem_append_left _ (List.mem_append_right _ h))
theorem miX4_restore_X4 : ∀ w ∈ wsX40, w ∈ wsX4_restore := fun _ h => List.mem_cons_of_mem _ (List.mem_append_left _ (List.mem_append_left _ (List.mem_append_right _ h)))
set_option maxHeartbeats 2000000 in
set_option maxRecDepth 20000 in
theorem cX4_restore_c (l : Launch) {κ : pv_Kt} {L : List Nat} {f : Nat → va_E} {x : Nat → Nat → Nat} {Z : Nat → Nat → Nat → Int32} (hok : pv_ok κ x L f Z) (nx kp : Nat) (hnx : Z 12 1 0 = nI nx) (hnx6 : nx < 6) (hkp : Z 12 2 0 = nI kp) (hkp6 : kp ≤ 6) (sl : Int32) : pv_Mi l κ yX4_restore wsX4_restore rmX4_restore L f [.ref (x 12 2), .int sl] 0 0 (pv_Wi κ x L (tRestoreZ Z nx kp sl) (tRestore Z nx kp sl)) := by
  refine pv_startI (cc := cX4_restore) (maxL := 2) (ret := (some .int)) (by decide) rfl (Nat.le_of_ble_eq_true rfl) (fun A0 P0 E0 S0 M0 a0 B0 T0 C0 hC => ?_)
  refine pg_sub (vs' := [(0, .ref (x 12 2)), (1, .int sl)]) [0, 1] rfl ?_
  refine pg_iload_n (pc := 0) hC dX4_restore_0 1 rfl rfl ?_
  refine pg_iconst (pc := 1) (v := 0) hC dX4_restore_1 (by decide) ?_
  refine pg_iconst (pc := 2) (v := 1) hC dX4_restore_2 (by decide) ?_
  refine pg_callSRi (pc := 3) (As := [.int sl, .int 0, .int 1]) (rest := []) hC dX4_restore_3 (cX4_isWithin_c l sl 0 1) (va_cwS 3 hC.2.2.2.2.1 gX4_restore_X4_isWithin rfl rfl rfl (by decide +kernel) ⟨Nat.le_of_ble_eq_true rfl, Nat.le_of_ble_eq_true rfl⟩) rfl rfl (Nat.le_of_ble_eq_true rfl) (Nat.zero_le _) (Nat.zero_le _) ?_
  refine pg_if_ne (pc := 6) hC 12 dX4_restore_6 (by decide)  (fun c1 => ?_) (fun c1 => ?_)
  · skip
    obtain ⟨j, hj1, rfl⟩ := bW_nat (m := 1) rfl (by decide) c1
    have clj : cl (nI j) = j := cl_nI (by omega)
    refine pg_aload_n (pc := 12) hC dX4_restore_12 0 rfl rfl ?_
    refine pgX_get3 (pc := 13) hC dX4_restore_13 (List.mem_of_getElem? (i := 1) rfl) miX4_restore_X4 hok ?_
    refine pg_iload_n (pc := 16) hC dX4_restore_16 1 rfl rfl ?_
    refine pgX_zald (pc := 17) (v := Z 12 4 j) hC dX4_restore_17 (j) hok rfl (by omega) rfl ?_
    refine pg_if_ne (pc := 18) hC 24 dX4_restore_18 (by decide)  (fun c2 => ?_) (fun c2 => ?_)
    · skip
      refine pg_aload_n (pc := 24) hC dX4_restore_24 0 rfl rfl ?_
      refine pgX_get1 (pc := 25) hC dX4_restore_25 (List.mem_of_getElem? (i := 2) rfl) miX4_restore_X4 hok ?_
      refine pg_aload_n (pc := 28) hC dX4_restore_28 0 rfl rfl ?_
      refine pgX_get0 (pc := 29) hC dX4_restore_29 (List.mem_of_getElem? (i := 3) rfl) miX4_restore_X4 hok ?_
      refine pg_callVWv (pc := 32) (As := [.ref (x 0 1)]) (rest := []) hC dX4_restore_32 (cX0_keep_c l hok nx kp hnx hnx6 hkp hkp6) (cwV 1 hC.2.2.2.2.1 gX4_restore_X0_keep rfl rfl rfl (by decide +kernel) ⟨Nat.le_of_ble_eq_true rfl, Nat.le_of_ble_eq_true rfl⟩) (ok_mem hok (by decide)) (ok_Ho hok) rfl rfl rfl rfl (Nat.le_of_ble_eq_true rfl) (Nat.zero_le _) (Nat.zero_le _) (fun f1 hokw1 => ?_)
      have hokk3 := sKeep_ok hokw1
      refine pg_aload_n (pc := 35) hC dX4_restore_35 0 rfl rfl ?_
      refine pgX_get0 (pc := 36) hC dX4_restore_36 (List.mem_of_getElem? (i := 3) rfl) miX4_restore_X4 hokk3 ?_
      refine pg_aload_n (pc := 39) hC dX4_restore_39 0 rfl rfl ?_
      refine pgX_get2 (pc := 40) hC dX4_restore_40 (List.mem_of_getElem? (i := 4) rfl) miX4_restore_X4 hokk3 ?_
      refine pg_iload_n (pc := 43) hC dX4_restore_43 1 rfl rfl ?_
      refine pgX_aldq (pc := 44) hC dX4_restore_44 (j) hokk3 rfl (by omega) ?_
      refine pg_callVWv (pc := 45) (As := [.ref (x (7 + j) 1)]) (rest := []) hC dX4_restore_45 (cX3_become_c l (by decide) (by omega) (by omega) hokk3) (cwV 1 hC.2.2.2.2.1 gX4_restore_X3_become rfl rfl rfl (by decide +kernel) ⟨Nat.le_of_ble_eq_true rfl, Nat.le_of_ble_eq_true rfl⟩) (ok_Sm hokk3 (by decide) 1 (by decide)) (og_So hokk3 (by decide)) rfl rfl rfl rfl (Nat.le_of_ble_eq_true rfl) (Nat.zero_le _) (Nat.zero_le _) (fun f2 hokw2 => ?_)
      refine pg_aload_n (pc := 48) hC dX4_restore_48 0 rfl rfl ?_
      refine pgX_get0 (pc := 49) hC dX4_restore_49 (List.mem_of_getElem? (i := 3) rfl) miX4_restore_X4 hokw2 ?_
      refine pgS_geti (pc := 52) (v := sKeep Z nx kp (7 + j) 14 0) hC dX4_restore_52 14 (List.mem_of_getElem? (i := 5) rfl) miX4_restore_X3 hokw2 (by decide) (by decide) rfl ?_
      exact pg_iret (pc := 55) hC dX4_restore_55 rfl ⟨(by first | rfl | (simp [tRestore, c1, c2, clj]; done) | (simp_all [tRestore]; done)), rfl, (by rw [show tRestoreZ Z nx kp (nI j) = (va_up (sKeep Z nx kp) 0 (sBec (Z 0) ((sKeep Z nx kp) (7 + j)))) from by (first | rfl | (simp [tRestoreZ, c1, c2, clj]; done))]; exact hokw2)⟩
    · skip
      refine pg_bipush (pc := 21) (v := (-5)) hC dX4_restore_21 (by decide) ?_
      exact pg_iret (pc := 23) hC dX4_restore_23 rfl ⟨(by first | rfl | (simp [tRestore, c1, c2, clj]; done) | (simp_all [tRestore]; done)), rfl, (by rw [show tRestoreZ Z nx kp (nI j) = Z from by (first | rfl | (simp [tRestoreZ, c1, c2, clj]; done))]; exact hok)⟩
  · skip
    refine pg_bipush (pc := 9) (v := (-2)) hC dX4_restore_9 (by decide) ?_
    exact pg_iret (pc := 11) hC dX4_restore_11 rfl ⟨(by first | rfl | (simp [tRestore, c1]; done) | (simp_all [tRestore]; done)), rfl, (by rw [show tRestoreZ Z nx kp sl = Z from by (first | rfl | (simp [tRestoreZ, c1]; done))]; exact hok)⟩
