abbrev rmX3_become : Room := { frames := 2, cells := 0, slots := 0, locals := 61 }
theorem miX3_become_X3 : ∀ w ∈ wsX30, w ∈ wsX3_become := fun _ h => List.mem_cons_of_mem _ (List.mem_append_right _ h)
set_option maxHeartbeats 2000000 in
set_option maxRecDepth 20000 in
theorem cX3_become_c (l : Launch) {κ : pv_Kt} {L : List Nat} {f : Nat → va_E} {x : Nat → Nat → Nat} {i j : Nat} (hi : i < 9) (hj : j < 9) (hji : j ≠ i) {Z : Nat → Nat → Nat → Int32} {z : Nat → Nat → Int32} (hok : pv_ok κ x L f (va_up Z i z)) : pv_Mv l κ yX3_become wsX3_become rmX3_become L f [.ref (x i 1), .ref (x j 1)] 0 0 (pv_Wv κ x L (va_up Z i (sBec z (Z j)))) := by
  refine pv_startV (cc := cX3_become) (maxL := 2) (ret := none) (by decide) rfl (Nat.le_of_ble_eq_true rfl) (fun A0 P0 E0 S0 M0 a0 B0 T0 C0 hC => ?_)
  refine pg_sub (vs' := [(0, .ref (x i 1)), (1, .ref (x j 1))]) [0, 1] rfl ?_
  refine pg_aload_n (pc := 0) hC dX3_become_0 1 rfl rfl ?_
  refine pgS_geta (pc := 1) hC dX3_become_1 0 (List.mem_of_getElem? (i := 1) rfl) miX3_become_X3 (ogI hok j) hj (by decide) (by decide) rfl ?_
  refine pg_aload_n (pc := 4) hC dX3_become_4 0 rfl rfl ?_
  refine pgS_geta (pc := 5) hC dX3_become_5 0 (List.mem_of_getElem? (i := 1) rfl) miX3_become_X3 hok hi (by decide) (by decide) rfl ?_
  refine pgS_copy (pc := 8) (r1 := z 0) (n := 5) hC dX3_become_8 0 hok hi hj hji (by decide) (by decide) rfl rfl ⟨va_cnB 2 hC.2.2.2.2.1 gX3_become_X4_copy_n61 rfl rfl rfl hC.2.2.2.2.2.2.2.2.2.1.2.1.2.2.2.1 (hC.2.2.2.2.1 _ (List.mem_of_getElem? (i := 17) rfl)) (by decide +kernel) ⟨Nat.le_of_ble_eq_true rfl, Nat.le_of_ble_eq_true rfl⟩, hC.2.2.2.2.1 _ (List.mem_of_getElem? (i := 16) rfl), trivial⟩ (Nat.le_of_ble_eq_true rfl) (Nat.zero_le _) (Nat.zero_le _) (fun f1 hokw1 => ?_)
  refine pg_aload_n (pc := 11) hC dX3_become_11 0 rfl rfl ?_
  refine pg_aload_n (pc := 12) hC dX3_become_12 1 rfl rfl ?_
  refine pgS_geti (pc := 13) (v := (Z j) 1 0) hC dX3_become_13 1 (List.mem_of_getElem? (i := 2) rfl) miX3_become_X3 (ogI hokw1 j) hj (by decide) (by rw [va_up_ne _ _ hji]) ?_
  refine pgS_puti (pc := 16) hC dX3_become_16 1 (List.mem_of_getElem? (i := 2) rfl) miX3_become_X3 hokw1 hi (by decide) (fun f2 hokw2 => ?_)
  refine pg_aload_n (pc := 19) hC dX3_become_19 1 rfl rfl ?_
  refine pgS_geta (pc := 20) hC dX3_become_20 2 (List.mem_of_getElem? (i := 3) rfl) miX3_become_X3 (ogI hokw2 j) hj (by decide) (by decide) rfl ?_
  refine pg_aload_n (pc := 23) hC dX3_become_23 0 rfl rfl ?_
  refine pgS_geta (pc := 24) hC dX3_become_24 2 (List.mem_of_getElem? (i := 3) rfl) miX3_become_X3 hokw2 hi (by decide) (by decide) rfl ?_
  refine pgS_copy (pc := 27) (r1 := z 2) (n := 12) hC dX3_become_27 2 hokw2 hi hj hji (by decide) (by decide) rfl rfl ⟨va_cnB 2 hC.2.2.2.2.1 gX3_become_X4_copy_n61 rfl rfl rfl hC.2.2.2.2.2.2.2.2.2.1.2.1.2.2.2.1 (hC.2.2.2.2.1 _ (List.mem_of_getElem? (i := 17) rfl)) (by decide +kernel) ⟨Nat.le_of_ble_eq_true rfl, Nat.le_of_ble_eq_true rfl⟩, hC.2.2.2.2.1 _ (List.mem_of_getElem? (i := 16) rfl), trivial⟩ (Nat.le_of_ble_eq_true rfl) (Nat.zero_le _) (Nat.zero_le _) (fun f3 hokw3 => ?_)
  refine pg_aload_n (pc := 30) hC dX3_become_30 1 rfl rfl ?_
  refine pgS_geta (pc := 31) hC dX3_become_31 3 (List.mem_of_getElem? (i := 4) rfl) miX3_become_X3 (ogI hokw3 j) hj (by decide) (by decide) rfl ?_
  refine pg_aload_n (pc := 34) hC dX3_become_34 0 rfl rfl ?_
  refine pgS_geta (pc := 35) hC dX3_become_35 3 (List.mem_of_getElem? (i := 4) rfl) miX3_become_X3 hokw3 hi (by decide) (by decide) rfl ?_
  refine pgS_copy (pc := 38) (r1 := z 3) (n := 12) hC dX3_become_38 3 hokw3 hi hj hji (by decide) (by decide) rfl rfl ⟨va_cnB 2 hC.2.2.2.2.1 gX3_become_X4_copy_n61 rfl rfl rfl hC.2.2.2.2.2.2.2.2.2.1.2.1.2.2.2.1 (hC.2.2.2.2.1 _ (List.mem_of_getElem? (i := 17) rfl)) (by decide +kernel) ⟨Nat.le_of_ble_eq_true rfl, Nat.le_of_ble_eq_true rfl⟩, hC.2.2.2.2.1 _ (List.mem_of_getElem? (i := 16) rfl), trivial⟩ (Nat.le_of_ble_eq_true rfl) (Nat.zero_le _) (Nat.zero_le _) (fun f4 hokw4 => ?_)
  refine pg_aload_n (pc := 41) hC dX3_become_41 1 rfl rfl ?_
  refine pgS_geta (pc := 42) hC dX3_become_42 4 (List.mem_of_getElem? (i := 5) rfl) miX3_become_X3 (ogI hokw4 j) hj (by decide) (by decide) rfl ?_
  refine pg_aload_n (pc := 45) hC dX3_become_45 0 rfl rfl ?_
  refine pgS_geta (pc := 46) hC dX3_become_46 4 (List.mem_of_getElem? (i := 5) rfl) miX3_become_X3 hokw4 hi (by decide) (by decide) rfl ?_
  refine pgS_copy (pc := 49) (r1 := z 4) (n := 12) hC dX3_become_49 4 hokw4 hi hj hji (by decide) (by decide) rfl rfl ⟨va_cnB 2 hC.2.2.2.2.1 gX3_become_X4_copy_n61 rfl rfl rfl hC.2.2.2.2.2.2.2.2.2.1.2.1.2.2.2.1 (hC.2.2.2.2.1 _ (List.mem_of_getElem? (i := 17) rfl)) (by decide +kernel) ⟨Nat.le_of_ble_eq_true rfl, Nat.le_of_ble_eq_true rfl⟩, hC.2.2.2.2.1 _ (List.mem_of_getElem? (i := 16) rfl), trivial⟩ (Nat.le_of_ble_eq_true rfl) (Nat.zero_le _) (Nat.zero_le _) (fun f5 hokw5 => ?_)
  refine pg_aload_n (pc := 52) hC dX3_become_52 1 rfl rfl ?_
  refine pgS_geta (pc := 53) hC dX3_become_53 5 (List.mem_of_getElem? (i := 6) rfl) miX3_become_X3 (ogI hokw5 j) hj (by decide) (by decide) rfl ?_
  refine pg_aload_n (pc := 56) hC dX3_become_56 0 rfl rfl ?_
  refine pgS_geta (pc := 57) hC dX3_become_57 5 (List.mem_of_getElem? (i := 6) rfl) miX3_become_X3 hokw5 hi (by decide) (by decide) rfl ?_
  refine pgS_copy (pc := 60) (r1 := z 5) (n := 120) hC dX3_become_60 5 hokw5 hi hj hji (by decide) (by decide) rfl rfl ⟨va_cnB 2 hC.2.2.2.2.1 gX3_become_X4_copy_n61 rfl rfl rfl hC.2.2.2.2.2.2.2.2.2.1.2.1.2.2.2.1 (hC.2.2.2.2.1 _ (List.mem_of_getElem? (i := 17) rfl)) (by decide +kernel) ⟨Nat.le_of_ble_eq_true rfl, Nat.le_of_ble_eq_true rfl⟩, hC.2.2.2.2.1 _ (List.mem_of_getElem? (i := 16) rfl), trivial⟩ (Nat.le_of_ble_eq_true rfl) (Nat.zero_le _) (Nat.zero_le _) (fun f6 hokw6 => ?_)
  refine pg_aload_n (pc := 63) hC dX3_become_63 1 rfl rfl ?_
  refine pgS_geta (pc := 64) hC dX3_become_64 6 (List.mem_of_getElem? (i := 7) rfl) miX3_become_X3 (ogI hokw6 j) hj (by decide) (by decide) rfl ?_
  refine pg_aload_n (pc := 67) hC dX3_become_67 0 rfl rfl ?_
  refine pgS_geta (pc := 68) hC dX3_become_68 6 (List.mem_of_getElem? (i := 7) rfl) miX3_become_X3 hokw6 hi (by decide) (by decide) rfl ?_
  refine pgS_copy (pc := 71) (r1 := z 6) (n := 10) hC dX3_become_71 6 hokw6 hi hj hji (by decide) (by decide) rfl rfl ⟨va_cnB 2 hC.2.2.2.2.1 gX3_become_X4_copy_n61 rfl rfl rfl hC.2.2.2.2.2.2.2.2.2.1.2.1.2.2.2.1 (hC.2.2.2.2.1 _ (List.mem_of_getElem? (i := 17) rfl)) (by decide +kernel) ⟨Nat.le_of_ble_eq_true rfl, Nat.le_of_ble_eq_true rfl⟩, hC.2.2.2.2.1 _ (List.mem_of_getElem? (i := 16) rfl), trivial⟩ (Nat.le_of_ble_eq_true rfl) (Nat.zero_le _) (Nat.zero_le _) (fun f7 hokw7 => ?_)
  refine pg_aload_n (pc := 74) hC dX3_become_74 1 rfl rfl ?_
  refine pgS_geta (pc := 75) hC dX3_become_75 7 (List.mem_of_getElem? (i := 8) rfl) miX3_become_X3 (ogI hokw7 j) hj (by decide) (by decide) rfl ?_
  refine pg_aload_n (pc := 78) hC dX3_become_78 0 rfl rfl ?_
  refine pgS_geta (pc := 79) hC dX3_become_79 7 (List.mem_of_getElem? (i := 8) rfl) miX3_become_X3 hokw7 hi (by decide) (by decide) rfl ?_
  refine pgS_copy (pc := 82) (r1 := z 7) (n := 10) hC dX3_become_82 7 hokw7 hi hj hji (by decide) (by decide) rfl rfl ⟨va_cnB 2 hC.2.2.2.2.1 gX3_become_X4_copy_n61 rfl rfl rfl hC.2.2.2.2.2.2.2.2.2.1.2.1.2.2.2.1 (hC.2.2.2.2.1 _ (List.mem_of_getElem? (i := 17) rfl)) (by decide +kernel) ⟨Nat.le_of_ble_eq_true rfl, Nat.le_of_ble_eq_true rfl⟩, hC.2.2.2.2.1 _ (List.mem_of_getElem? (i := 16) rfl), trivial⟩ (Nat.le_of_ble_eq_true rfl) (Nat.zero_le _) (Nat.zero_le _) (fun f8 hokw8 => ?_)
  refine pg_aload_n (pc := 85) hC dX3_become_85 1 rfl rfl ?_
  refine pgS_geta (pc := 86) hC dX3_become_86 8 (List.mem_of_getElem? (i := 9) rfl) miX3_become_X3 (ogI hokw8 j) hj (by decide) (by decide) rfl ?_
  refine pg_aload_n (pc := 89) hC dX3_become_89 0 rfl rfl ?_
  refine pgS_geta (pc := 90) hC dX3_become_90 8 (List.mem_of_getElem? (i := 9) rfl) miX3_become_X3 hokw8 hi (by decide) (by decide) rfl ?_
  refine pgS_copy (pc := 93) (r1 := z 8) (n := 10) hC dX3_become_93 8 hokw8 hi hj hji (by decide) (by decide) rfl rfl ⟨va_cnB 2 hC.2.2.2.2.1 gX3_become_X4_copy_n61 rfl rfl rfl hC.2.2.2.2.2.2.2.2.2.1.2.1.2.2.2.1 (hC.2.2.2.2.1 _ (List.mem_of_getElem? (i := 17) rfl)) (by decide +kernel) ⟨Nat.le_of_ble_eq_true rfl, Nat.le_of_ble_eq_true rfl⟩, hC.2.2.2.2.1 _ (List.mem_of_getElem? (i := 16) rfl), trivial⟩ (Nat.le_of_ble_eq_true rfl) (Nat.zero_le _) (Nat.zero_le _) (fun f9 hokw9 => ?_)
  refine pg_aload_n (pc := 96) hC dX3_become_96 1 rfl rfl ?_
  refine pgS_geta (pc := 97) hC dX3_become_97 9 (List.mem_of_getElem? (i := 10) rfl) miX3_become_X3 (ogI hokw9 j) hj (by decide) (by decide) rfl ?_
  refine pg_aload_n (pc := 100) hC dX3_become_100 0 rfl rfl ?_
  refine pgS_geta (pc := 101) hC dX3_become_101 9 (List.mem_of_getElem? (i := 10) rfl) miX3_become_X3 hokw9 hi (by decide) (by decide) rfl ?_
  refine pgS_copy (pc := 104) (r1 := z 9) (n := 10) hC dX3_become_104 9 hokw9 hi hj hji (by decide) (by decide) rfl rfl ⟨va_cnB 2 hC.2.2.2.2.1 gX3_become_X4_copy_n61 rfl rfl rfl hC.2.2.2.2.2.2.2.2.2.1.2.1.2.2.2.1 (hC.2.2.2.2.1 _ (List.mem_of_getElem? (i := 17) rfl)) (by decide +kernel) ⟨Nat.le_of_ble_eq_true rfl, Nat.le_of_ble_eq_true rfl⟩, hC.2.2.2.2.1 _ (List.mem_of_getElem? (i := 16) rfl), trivial⟩ (Nat.le_of_ble_eq_true rfl) (Nat.zero_le _) (Nat.zero_le _) (fun f10 hokw10 => ?_)
  refine pg_aload_n (pc := 107) hC dX3_become_107 1 rfl rfl ?_
  refine pgS_geta (pc := 108) hC dX3_become_108 10 (List.mem_of_getElem? (i := 11) rfl) miX3_become_X3 (ogI hokw10 j) hj (by decide) (by decide) rfl ?_
  refine pg_aload_n (pc := 111) hC dX3_become_111 0 rfl rfl ?_
  refine pgS_geta (pc := 112) hC dX3_become_112 10 (List.mem_of_getElem? (i := 11) rfl) miX3_become_X3 hokw10 hi (by decide) (by decide) rfl ?_
  refine pgS_copy (pc := 115) (r1 := z 10) (n := 10) hC dX3_become_115 10 hokw10 hi hj hji (by decide) (by decide) rfl rfl ⟨va_cnB 2 hC.2.2.2.2.1 gX3_become_X4_copy_n61 rfl rfl rfl hC.2.2.2.2.2.2.2.2.2.1.2.1.2.2.2.1 (hC.2.2.2.2.1 _ (List.mem_of_getElem? (i := 17) rfl)) (by decide +kernel) ⟨Nat.le_of_ble_eq_true rfl, Nat.le_of_ble_eq_true rfl⟩, hC.2.2.2.2.1 _ (List.mem_of_getElem? (i := 16) rfl), trivial⟩ (Nat.le_of_ble_eq_true rfl) (Nat.zero_le _) (Nat.zero_le _) (fun f11 hokw11 => ?_)
  refine pg_aload_n (pc := 118) hC dX3_become_118 1 rfl rfl ?_
  refine pgS_geta (pc := 119) hC dX3_become_119 11 (List.mem_of_getElem? (i := 12) rfl) miX3_become_X3 (ogI hokw11 j) hj (by decide) (by decide) rfl ?_
  refine pg_aload_n (pc := 122) hC dX3_become_122 0 rfl rfl ?_
  refine pgS_geta (pc := 123) hC dX3_become_123 11 (List.mem_of_getElem? (i := 12) rfl) miX3_become_X3 hokw11 hi (by decide) (by decide) rfl ?_
  refine pgS_copy (pc := 126) (r1 := z 11) (n := 10) hC dX3_become_126 11 hokw11 hi hj hji (by decide) (by decide) rfl rfl ⟨va_cnB 2 hC.2.2.2.2.1 gX3_become_X4_copy_n61 rfl rfl rfl hC.2.2.2.2.2.2.2.2.2.1.2.1.2.2.2.1 (hC.2.2.2.2.1 _ (List.mem_of_getElem? (i := 17) rfl)) (by decide +kernel) ⟨Nat.le_of_ble_eq_true rfl, Nat.le_of_ble_eq_true rfl⟩, hC.2.2.2.2.1 _ (List.mem_of_getElem? (i := 16) rfl), trivial⟩ (Nat.le_of_ble_eq_true rfl) (Nat.zero_le _) (Nat.zero_le _) (fun f12 hokw12 => ?_)
  refine pg_aload_n (pc := 129) hC dX3_become_129 1 rfl rfl ?_
  refine pgS_geta (pc := 130) hC dX3_become_130 12 (List.mem_of_getElem? (i := 13) rfl) miX3_become_X3 (ogI hokw12 j) hj (by decide) (by decide) rfl ?_
  refine pg_aload_n (pc := 133) hC dX3_become_133 0 rfl rfl ?_
  refine pgS_geta (pc := 134) hC dX3_become_134 12 (List.mem_of_getElem? (i := 13) rfl) miX3_become_X3 hokw12 hi (by decide) (by decide) rfl ?_
  refine pgS_copy (pc := 137) (r1 := z 12) (n := 5) hC dX3_become_137 12 hokw12 hi hj hji (by decide) (by decide) rfl rfl ⟨va_cnB 2 hC.2.2.2.2.1 gX3_become_X4_copy_n61 rfl rfl rfl hC.2.2.2.2.2.2.2.2.2.1.2.1.2.2.2.1 (hC.2.2.2.2.1 _ (List.mem_of_getElem? (i := 17) rfl)) (by decide +kernel) ⟨Nat.le_of_ble_eq_true rfl, Nat.le_of_ble_eq_true rfl⟩, hC.2.2.2.2.1 _ (List.mem_of_getElem? (i := 16) rfl), trivial⟩ (Nat.le_of_ble_eq_true rfl) (Nat.zero_le _) (Nat.zero_le _) (fun f13 hokw13 => ?_)
  refine pg_aload_n (pc := 140) hC dX3_become_140 1 rfl rfl ?_
  refine pgS_geta (pc := 141) hC dX3_become_141 13 (List.mem_of_getElem? (i := 14) rfl) miX3_become_X3 (ogI hokw13 j) hj (by decide) (by decide) rfl ?_
  refine pg_aload_n (pc := 144) hC dX3_become_144 0 rfl rfl ?_
  refine pgS_geta (pc := 145) hC dX3_become_145 13 (List.mem_of_getElem? (i := 14) rfl) miX3_become_X3 hokw13 hi (by decide) (by decide) rfl ?_
  refine pgS_copy (pc := 148) (r1 := z 13) (n := 5) hC dX3_become_148 13 hokw13 hi hj hji (by decide) (by decide) rfl rfl ⟨va_cnB 2 hC.2.2.2.2.1 gX3_become_X4_copy_n61 rfl rfl rfl hC.2.2.2.2.2.2.2.2.2.1.2.1.2.2.2.1 (hC.2.2.2.2.1 _ (List.mem_of_getElem? (i := 17) rfl)) (by decide +kernel) ⟨Nat.le_of_ble_eq_true rfl, Nat.le_of_ble_eq_true rfl⟩, hC.2.2.2.2.1 _ (List.mem_of_getElem? (i := 16) rfl), trivial⟩ (Nat.le_of_ble_eq_true rfl) (Nat.zero_le _) (Nat.zero_le _) (fun f14 hokw14 => ?_)
  refine pg_aload_n (pc := 151) hC dX3_become_151 0 rfl rfl ?_
  refine pg_aload_n (pc := 152) hC dX3_become_152 1 rfl rfl ?_
  refine pgS_geti (pc := 153) (v := (Z j) 14 0) hC dX3_become_153 14 (List.mem_of_getElem? (i := 15) rfl) miX3_become_X3 (ogI hokw14 j) hj (by decide) (by rw [va_up_ne _ _ hji]) ?_
  refine pgS_puti (pc := 156) hC dX3_become_156 14 (List.mem_of_getElem? (i := 15) rfl) miX3_become_X3 hokw14 hi (by decide) (fun f15 hokw15 => ?_)
  exact pg_vret (pc := 159) hC dX3_become_159 rfl ⟨rfl, hokw15⟩
