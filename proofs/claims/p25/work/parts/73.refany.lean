abbrev rmL_refusesAny : Room := { frames := 7, cells := 0, slots := 0, locals := 163 }
set_option maxHeartbeats 32000000 in
set_option maxRecDepth 20000 in
theorem cL_refusesAny_0 (l : Launch) {κ : pv_Kt} {L : List Nat} {f : Nat → va_E} {x : Nat → Nat → Nat} {Z : Nat → Nat → Nat → Int32} (hok : pv_ok κ x L f Z) (n K : Nat) (h : IV (Z 0) n K) (hK : K ≤ 100) (nx kp : Nat) (hnx : Z 12 1 0 = nI nx) (hnx6 : nx < 6) (hkp : Z 12 2 0 = nI kp) (hkp6 : kp ≤ 6) (hpl : Z 9 1 0 = 0) (X : Nat) (hX : X < 2 ^ 31) (hx : X % 2 = 0)  : pv_Mi l κ yL_refusesAny wsL_refusesAny rmL_refusesAny L f [.ref (x 12 2), .int (nI X)] 0 0 (pv_Ei κ x L (fun r Z1 => r = 1 ∧ RS Z Z1)) := by
  refine pv_startI (cc := cL_refusesAny) (maxL := 8) (ret := (some .boolean)) (by decide) rfl (Nat.le_of_ble_eq_true rfl) (fun A0 P0 E0 S0 M0 a0 B0 T0 C0 hC => ?_)
  refine pg_sub (vs' := [(0, .ref (x 12 2)), (1, .int (nI X))]) [0, 1] rfl ?_
  have hn := h.nn
  have hn12 := h.n12
  refine pg_iload_n (pc := 0) hC dL_refusesAny_0 1 rfl rfl ?_
  refine pg_iconst (pc := 1) (v := 2) hC dL_refusesAny_1 (by decide) ?_
  refine pg_irem (pc := 2) (v := nI (X % 2)) hC dL_refusesAny_2 (by decide) (pk_rem (a := X) (d := 2) (by omega) (by omega) (by omega)) ?_
  refine pg_if_ne (pc := 3) hC 14 dL_refusesAny_3 (by decide)  (fun c1 => False.elim (c1 ((nI_z (by omega)).mpr hx))) (fun c1 => ?_)
  refine pg_iconst (pc := 6) (v := (-1)) hC dL_refusesAny_6 (by decide) ?_
  refine pg_iload_n (pc := 7) hC dL_refusesAny_7 1 rfl rfl ?_
  refine pg_iconst (pc := 8) (v := 5) hC dL_refusesAny_8 (by decide) ?_
  refine pg_irem (pc := 9) (v := nI (X % 5)) hC dL_refusesAny_9 (by decide) (pk_rem (a := X) (d := 5) (by omega) (by omega) (by omega)) ?_
  refine pg_isub (pc := 10) (v := (-1) - (nI (X % 5))) hC dL_refusesAny_10 rfl ?_
  refine pg_goto (pc := 11) hC 21 dL_refusesAny_11 (by decide) ?_
  refine pg_istore_n (pc := 21) (vs' := [(2, .int ((-1) - (nI (X % 5)))), (0, .ref (x 12 2)), (1, .int (nI X))]) hC dL_refusesAny_21 rfl (by decide) rfl ?_
  refine pg_iload_n (pc := 22) hC dL_refusesAny_22 2 rfl rfl ?_
  refine pg_iconst (pc := 23) (v := 2) hC dL_refusesAny_23 (by decide) ?_
  refine pg_irem (pc := 24) (v := nI (X % 2)) hC dL_refusesAny_24 (by decide) (pk_rem (a := X) (d := 2) (by omega) (by omega) (by omega)) ?_
  refine pg_if_ne (pc := 25) hC 37 dL_refusesAny_25 (by decide)  (fun c2 => False.elim (c2 ((nI_z (by omega)).mpr hx))) (fun c2 => ?_)
  refine pg_iconst (pc := 28) (v := (-1)) hC dL_refusesAny_28 (by decide) ?_
  refine pg_iload_n (pc := 29) hC dL_refusesAny_29 2 rfl rfl ?_
  refine pg_bipush (pc := 30) (v := 99) hC dL_refusesAny_30 (by decide) ?_
  refine pg_irem (pc := 32) (v := nI (X % 99)) hC dL_refusesAny_32 (by decide) (pk_rem (a := X) (d := 99) (by omega) (by omega) (by omega)) ?_
  refine pg_isub (pc := 33) (v := (-1) - (nI (X % 99))) hC dL_refusesAny_33 rfl ?_
  refine pg_goto (pc := 34) hC 47 dL_refusesAny_34 (by decide) ?_
  refine pg_istore_n (pc := 47) (vs' := [(3, .int ((-1) - (nI (X % 99)))), (2, .int ((-1) - (nI (X % 5)))), (0, .ref (x 12 2)), (1, .int (nI X))]) hC dL_refusesAny_47 rfl (by decide) rfl ?_
  refine pg_iload_n (pc := 48) hC dL_refusesAny_48 3 rfl rfl ?_
  refine pg_iconst (pc := 49) (v := 2) hC dL_refusesAny_49 (by decide) ?_
  refine pg_irem (pc := 50) (v := nI (X % 2)) hC dL_refusesAny_50 (by decide) (pk_rem (a := X) (d := 2) (by omega) (by omega) (by omega)) ?_
  refine pg_if_ne (pc := 51) hC 62 dL_refusesAny_51 (by decide)  (fun c3 => False.elim (c3 ((nI_z (by omega)).mpr hx))) (fun c3 => ?_)
  refine pg_iload_n (pc := 54) hC dL_refusesAny_54 3 rfl rfl ?_
  refine pg_ineg (pc := 55) (v := -(nI X)) hC dL_refusesAny_55 rfl ?_
  refine pg_bipush (pc := 56) (v := 99) hC dL_refusesAny_56 (by decide) ?_
  refine pg_irem (pc := 58) (v := (-(nI X)) - (-(nI X)) / 99 * 99) hC dL_refusesAny_58 (by decide) rfl ?_
  refine pg_goto (pc := 59) hC 69 dL_refusesAny_59 (by decide) ?_
  refine pg_istore (pc := 69) (vs' := [(4, .int ((-(nI X)) - (-(nI X)) / 99 * 99)), (3, .int ((-1) - (nI (X % 99)))), (2, .int ((-1) - (nI (X % 5)))), (0, .ref (x 12 2)), (1, .int (nI X))]) hC dL_refusesAny_69 (by decide) rfl ?_
  refine pg_iload_n (pc := 71) hC dL_refusesAny_71 4 rfl rfl ?_
  refine pg_bipush (pc := 72) (v := 10) hC dL_refusesAny_72 (by decide) ?_
  refine pg_irem (pc := 74) (v := nI (X % 10)) hC dL_refusesAny_74 (by decide) (pk_rem (a := X) (d := 10) (by omega) (by omega) (by omega)) ?_
  refine pg_istore (pc := 75) (vs' := [(5, .int (nI (X % 10))), (4, .int ((-(nI X)) - (-(nI X)) / 99 * 99)), (3, .int ((-1) - (nI (X % 99)))), (2, .int ((-1) - (nI (X % 5)))), (0, .ref (x 12 2)), (1, .int (nI X))]) hC dL_refusesAny_75 (by decide) rfl ?_
  have hpp : bW ((-1) - (nI (X % 5))) 0 9 = 0 := rf_neg0 (by omega)
  have hpp6 : ¬ ((-1) - (nI (X % 5))) = -6 := rf_neg6 (by omega)
  have hee : bH (Z 0) ((-1) - (nI (X % 99))) = 0 := rf_negH (by omega)
  have hmm : bW ((-(nI X)) - (-(nI X)) / 99 * 99) 1 99 = 0 := rf_mm hX
  have hso : X % 10 < 10 := by omega
  refine pg_aload_n (pc := 77) hC dL_refusesAny_77 4 rfl rfl ?_
  refine pg_iconst (pc := 78) (v := 5) hC dL_refusesAny_78 (by decide) ?_
  refine pg_callVYi (pc := 79) (As := [.int 5]) (rest := []) (v2 := nI n) hC dL_refusesAny_79 (cX4_count_c l hok n hn hn12 5 _ rfl) ((tC _ _).2.2.2.2.2.1.trans hn) (cwV 1 hC.2.2.2.2.1 gL_refusesAny_X4_count rfl rfl rfl (by decide +kernel) ⟨Nat.le_of_ble_eq_true rfl, Nat.le_of_ble_eq_true rfl⟩) (ok_mem hok (by decide)) (ok_Xo hok) rfl rfl rfl rfl (Nat.le_of_ble_eq_true rfl) (Nat.zero_le _) (Nat.zero_le _) ?_
  refine pg_join (pc := 82) (σ := Int32) (fun q => match q with | an_y => an_y = 0 ∨ 0 < n) 92 (fun q => match q with | an_y => [(6, .int an_y), (5, .int (nI (X % 10))), (4, .int ((-(nI X)) - (-(nI X)) / 99 * 99)), (3, .int ((-1) - (nI (X % 99)))), (2, .int ((-1) - (nI (X % 5)))), (0, .ref (x 12 2)), (1, .int (nI X))]) (fun q => match q with | an_y => []) (fun q => match q with | an_y => f) ?_ (fun j4 => ?_)
  · skip
    intro q hI
    obtain ⟨an_y, rfl⟩ : ∃ z, z = q := ⟨_, rfl⟩
    try dsimp only
    have hany : an_y = 0 ∨ 0 < n := hI
    refine pg_aload_n (pc := 92) hC dL_refusesAny_92 5 rfl rfl ?_
    refine pg_iload_n (pc := 93) hC dL_refusesAny_93 6 rfl rfl ?_
    refine pg_iconst (pc := 94) (v := 2) hC dL_refusesAny_94 (by decide) ?_
    refine pg_irem (pc := 95) (v := nI (X % 2)) hC dL_refusesAny_95 (by decide) (pk_rem (a := X) (d := 2) (by omega) (by omega) (by omega)) ?_
    refine pg_if_ne (pc := 96) hC 103 dL_refusesAny_96 (by decide)  (fun c5 => False.elim (c5 ((nI_z (by omega)).mpr hx))) (fun c5 => ?_)
    refine pg_iconst (pc := 99) (v := (-1)) hC dL_refusesAny_99 (by decide) ?_
    refine pg_goto (pc := 100) hC 104 dL_refusesAny_100 (by decide) ?_
    refine pg_iconst (pc := 104) (v := 5) hC dL_refusesAny_104 (by decide) ?_
    refine pg_callVXi (pc := 105) (As := [.int (-1), .int 5]) (rest := []) (v2 := (-2)) (Z3 := Z) hC dL_refusesAny_105 (cX4_set_c l hok nx kp hnx hnx6 hkp hkp6 (-1) 5) (rf_set (Or.inl (by decide +kernel))) (cwV 2 hC.2.2.2.2.1 gL_refusesAny_X4_set rfl rfl rfl (by decide +kernel) ⟨Nat.le_of_ble_eq_true rfl, Nat.le_of_ble_eq_true rfl⟩) (ok_mem hok (by decide)) (ok_Xo hok) rfl rfl rfl rfl (Nat.le_of_ble_eq_true rfl) (Nat.zero_le _) (Nat.zero_le _) (fun f1 hokw1 => ?_)
    refine pg_bipush (pc := 108) (v := (-2)) hC dL_refusesAny_108 (by decide) ?_
    refine pg_icmp_ne (pc := 110) hC 474 dL_refusesAny_110 (by decide)  (fun c6 => False.elim (c6 rfl)) (fun c6 => ?_)
    refine pg_aload_n (pc := 113) hC dL_refusesAny_113 5 rfl rfl ?_
    refine pg_iconst (pc := 114) (v := 0) hC dL_refusesAny_114 (by decide) ?_
    refine pg_iload_n (pc := 115) hC dL_refusesAny_115 6 rfl rfl ?_
    refine pg_iconst (pc := 116) (v := 2) hC dL_refusesAny_116 (by decide) ?_
    refine pg_irem (pc := 117) (v := nI (X % 2)) hC dL_refusesAny_117 (by decide) (pk_rem (a := X) (d := 2) (by omega) (by omega) (by omega)) ?_
    refine pg_if_ne (pc := 118) hC 125 dL_refusesAny_118 (by decide)  (fun c7 => False.elim (c7 ((nI_z (by omega)).mpr hx))) (fun c7 => ?_)
    refine pg_iconst (pc := 121) (v := 0) hC dL_refusesAny_121 (by decide) ?_
    refine pg_goto (pc := 122) hC 127 dL_refusesAny_122 (by decide) ?_
    refine pg_callVXi (pc := 127) (As := [.int 0, .int 0]) (rest := []) (v2 := (-2)) (Z3 := Z) hC dL_refusesAny_127 (cX4_set_c l hokw1 nx kp hnx hnx6 hkp hkp6 0 0) (rf_set (Or.inr (by decide +kernel))) (cwV 2 hC.2.2.2.2.1 gL_refusesAny_X4_set rfl rfl rfl (by decide +kernel) ⟨Nat.le_of_ble_eq_true rfl, Nat.le_of_ble_eq_true rfl⟩) (ok_mem hokw1 (by decide)) (ok_Xo hokw1) rfl rfl rfl rfl (Nat.le_of_ble_eq_true rfl) (Nat.zero_le _) (Nat.zero_le _) (fun f2 hokw2 => ?_)
    refine pg_bipush (pc := 130) (v := (-2)) hC dL_refusesAny_130 (by decide) ?_
    refine pg_icmp_ne (pc := 132) hC 474 dL_refusesAny_132 (by decide)  (fun c8 => False.elim (c8 rfl)) (fun c8 => ?_)
    refine pg_aload_n (pc := 135) hC dL_refusesAny_135 5 rfl rfl ?_
    refine pg_iconst (pc := 136) (v := 1) hC dL_refusesAny_136 (by decide) ?_
    refine pg_iload_n (pc := 137) hC dL_refusesAny_137 6 rfl rfl ?_
    refine pg_iconst (pc := 138) (v := 2) hC dL_refusesAny_138 (by decide) ?_
    refine pg_irem (pc := 139) (v := nI (X % 2)) hC dL_refusesAny_139 (by decide) (pk_rem (a := X) (d := 2) (by omega) (by omega) (by omega)) ?_
    refine pg_if_ne (pc := 140) hC 147 dL_refusesAny_140 (by decide)  (fun c9 => False.elim (c9 ((nI_z (by omega)).mpr hx))) (fun c9 => ?_)
    refine pg_iconst (pc := 143) (v := (-1)) hC dL_refusesAny_143 (by decide) ?_
    refine pg_goto (pc := 144) hC 149 dL_refusesAny_144 (by decide) ?_
    refine pg_callVXi (pc := 149) (As := [.int 1, .int (-1)]) (rest := []) (v2 := (-2)) (Z3 := Z) hC dL_refusesAny_149 (cX4_set_c l hokw2 nx kp hnx hnx6 hkp hkp6 1 (-1)) (rf_set (Or.inr (by decide +kernel))) (cwV 2 hC.2.2.2.2.1 gL_refusesAny_X4_set rfl rfl rfl (by decide +kernel) ⟨Nat.le_of_ble_eq_true rfl, Nat.le_of_ble_eq_true rfl⟩) (ok_mem hokw2 (by decide)) (ok_Xo hokw2) rfl rfl rfl rfl (Nat.le_of_ble_eq_true rfl) (Nat.zero_le _) (Nat.zero_le _) (fun f3 hokw3 => ?_)
    refine pg_bipush (pc := 152) (v := (-2)) hC dL_refusesAny_152 (by decide) ?_
    refine pg_icmp_ne (pc := 154) hC 474 dL_refusesAny_154 (by decide)  (fun c10 => False.elim (c10 rfl)) (fun c10 => ?_)
    refine pg_aload_n (pc := 157) hC dL_refusesAny_157 5 rfl rfl ?_
    refine pg_iconst (pc := 158) (v := 2) hC dL_refusesAny_158 (by decide) ?_
    refine pg_iload_n (pc := 159) hC dL_refusesAny_159 6 rfl rfl ?_
    refine pg_iconst (pc := 160) (v := 2) hC dL_refusesAny_160 (by decide) ?_
    refine pg_irem (pc := 161) (v := nI (X % 2)) hC dL_refusesAny_161 (by decide) (pk_rem (a := X) (d := 2) (by omega) (by omega) (by omega)) ?_
    refine pg_if_ne (pc := 162) hC 169 dL_refusesAny_162 (by decide)  (fun c11 => False.elim (c11 ((nI_z (by omega)).mpr hx))) (fun c11 => ?_)
    refine pg_iconst (pc := 165) (v := 0) hC dL_refusesAny_165 (by decide) ?_
    refine pg_goto (pc := 166) hC 171 dL_refusesAny_166 (by decide) ?_
    refine pg_callVXi (pc := 171) (As := [.int 2, .int 0]) (rest := []) (v2 := (-2)) (Z3 := Z) hC dL_refusesAny_171 (cX4_set_c l hokw3 nx kp hnx hnx6 hkp hkp6 2 0) (rf_set (Or.inr (by decide +kernel))) (cwV 2 hC.2.2.2.2.1 gL_refusesAny_X4_set rfl rfl rfl (by decide +kernel) ⟨Nat.le_of_ble_eq_true rfl, Nat.le_of_ble_eq_true rfl⟩) (ok_mem hokw3 (by decide)) (ok_Xo hokw3) rfl rfl rfl rfl (Nat.le_of_ble_eq_true rfl) (Nat.zero_le _) (Nat.zero_le _) (fun f4 hokw4 => ?_)
    refine pg_bipush (pc := 174) (v := (-2)) hC dL_refusesAny_174 (by decide) ?_
    refine pg_icmp_ne (pc := 176) hC 474 dL_refusesAny_176 (by decide)  (fun c12 => False.elim (c12 rfl)) (fun c12 => ?_)
    refine pg_aload_n (pc := 179) hC dL_refusesAny_179 5 rfl rfl ?_
    refine pg_iconst (pc := 180) (v := 3) hC dL_refusesAny_180 (by decide) ?_
    refine pg_iload_n (pc := 181) hC dL_refusesAny_181 6 rfl rfl ?_
    refine pg_iconst (pc := 182) (v := 2) hC dL_refusesAny_182 (by decide) ?_
    refine pg_irem (pc := 183) (v := nI (X % 2)) hC dL_refusesAny_183 (by decide) (pk_rem (a := X) (d := 2) (by omega) (by omega) (by omega)) ?_
    refine pg_if_ne (pc := 184) hC 191 dL_refusesAny_184 (by decide)  (fun c13 => False.elim (c13 ((nI_z (by omega)).mpr hx))) (fun c13 => ?_)
    refine pg_iconst (pc := 187) (v := 0) hC dL_refusesAny_187 (by decide) ?_
    refine pg_goto (pc := 188) hC 193 dL_refusesAny_188 (by decide) ?_
    refine pg_callVXi (pc := 193) (As := [.int 3, .int 0]) (rest := []) (v2 := (-2)) (Z3 := Z) hC dL_refusesAny_193 (cX4_set_c l hokw4 nx kp hnx hnx6 hkp hkp6 3 0) (rf_set (Or.inr (by decide +kernel))) (cwV 2 hC.2.2.2.2.1 gL_refusesAny_X4_set rfl rfl rfl (by decide +kernel) ⟨Nat.le_of_ble_eq_true rfl, Nat.le_of_ble_eq_true rfl⟩) (ok_mem hokw4 (by decide)) (ok_Xo hokw4) rfl rfl rfl rfl (Nat.le_of_ble_eq_true rfl) (Nat.zero_le _) (Nat.zero_le _) (fun f5 hokw5 => ?_)
    refine pg_bipush (pc := 196) (v := (-2)) hC dL_refusesAny_196 (by decide) ?_
    refine pg_icmp_ne (pc := 198) hC 474 dL_refusesAny_198 (by decide)  (fun c14 => False.elim (c14 rfl)) (fun c14 => ?_)
    refine pg_aload_n (pc := 201) hC dL_refusesAny_201 5 rfl rfl ?_
    refine pg_iconst (pc := 202) (v := 4) hC dL_refusesAny_202 (by decide) ?_
    refine pg_iload_n (pc := 203) hC dL_refusesAny_203 6 rfl rfl ?_
    refine pg_iconst (pc := 204) (v := 2) hC dL_refusesAny_204 (by decide) ?_
    refine pg_irem (pc := 205) (v := nI (X % 2)) hC dL_refusesAny_205 (by decide) (pk_rem (a := X) (d := 2) (by omega) (by omega) (by omega)) ?_
    refine pg_if_ne (pc := 206) hC 213 dL_refusesAny_206 (by decide)  (fun c15 => False.elim (c15 ((nI_z (by omega)).mpr hx))) (fun c15 => ?_)
    refine pg_iconst (pc := 209) (v := (-1)) hC dL_refusesAny_209 (by decide) ?_
    refine pg_goto (pc := 210) hC 215 dL_refusesAny_210 (by decide) ?_
    refine pg_callVXi (pc := 215) (As := [.int 4, .int (-1)]) (rest := []) (v2 := (-2)) (Z3 := Z) hC dL_refusesAny_215 (cX4_set_c l hokw5 nx kp hnx hnx6 hkp hkp6 4 (-1)) (rf_set (Or.inr (by decide +kernel))) (cwV 2 hC.2.2.2.2.1 gL_refusesAny_X4_set rfl rfl rfl (by decide +kernel) ⟨Nat.le_of_ble_eq_true rfl, Nat.le_of_ble_eq_true rfl⟩) (ok_mem hokw5 (by decide)) (ok_Xo hokw5) rfl rfl rfl rfl (Nat.le_of_ble_eq_true rfl) (Nat.zero_le _) (Nat.zero_le _) (fun f6 hokw6 => ?_)
    refine pg_bipush (pc := 218) (v := (-2)) hC dL_refusesAny_218 (by decide) ?_
    refine pg_icmp_ne (pc := 220) hC 474 dL_refusesAny_220 (by decide)  (fun c16 => False.elim (c16 rfl)) (fun c16 => ?_)
    refine pg_aload_n (pc := 223) hC dL_refusesAny_223 5 rfl rfl ?_
    refine pg_iload_n (pc := 224) hC dL_refusesAny_224 6 rfl rfl ?_
    refine pg_iconst (pc := 225) (v := 2) hC dL_refusesAny_225 (by decide) ?_
    refine pg_irem (pc := 226) (v := nI (X % 2)) hC dL_refusesAny_226 (by decide) (pk_rem (a := X) (d := 2) (by omega) (by omega) (by omega)) ?_
    refine pg_if_ne (pc := 227) hC 234 dL_refusesAny_227 (by decide)  (fun c17 => False.elim (c17 ((nI_z (by omega)).mpr hx))) (fun c17 => ?_)
    refine pg_iconst (pc := 230) (v := (-1)) hC dL_refusesAny_230 (by decide) ?_
    refine pg_goto (pc := 231) hC 235 dL_refusesAny_231 (by decide) ?_
    refine pg_iconst (pc := 235) (v := 5) hC dL_refusesAny_235 (by decide) ?_
    refine pg_callVXi (pc := 236) (As := [.int (-1), .int 5]) (rest := []) (v2 := (-2)) (Z3 := Z) hC dL_refusesAny_236 (cX4_add_c l hokw6 n hn hn12 nx kp hnx hnx6 hkp hkp6 (-1) 5) (rf_add1 (Or.inl (by decide +kernel))) (cwV 2 hC.2.2.2.2.1 gL_refusesAny_X4_add rfl rfl rfl (by decide +kernel) ⟨Nat.le_of_ble_eq_true rfl, Nat.le_of_ble_eq_true rfl⟩) (ok_mem hokw6 (by decide)) (ok_Xo hokw6) rfl rfl rfl rfl (Nat.le_of_ble_eq_true rfl) (Nat.zero_le _) (Nat.zero_le _) (fun f7 hokw7 => ?_)
    refine pg_bipush (pc := 239) (v := (-2)) hC dL_refusesAny_239 (by decide) ?_
    refine pg_icmp_ne (pc := 241) hC 474 dL_refusesAny_241 (by decide)  (fun c18 => False.elim (c18 rfl)) (fun c18 => ?_)
    refine pg_aload_n (pc := 244) hC dL_refusesAny_244 5 rfl rfl ?_
    refine pg_iconst (pc := 245) (v := 0) hC dL_refusesAny_245 (by decide) ?_
    refine pg_iload_n (pc := 246) hC dL_refusesAny_246 6 rfl rfl ?_
    refine pg_iconst (pc := 247) (v := 2) hC dL_refusesAny_247 (by decide) ?_
    refine pg_irem (pc := 248) (v := nI (X % 2)) hC dL_refusesAny_248 (by decide) (pk_rem (a := X) (d := 2) (by omega) (by omega) (by omega)) ?_
    refine pg_if_ne (pc := 249) hC 256 dL_refusesAny_249 (by decide)  (fun c19 => False.elim (c19 ((nI_z (by omega)).mpr hx))) (fun c19 => ?_)
    refine pg_iconst (pc := 252) (v := 0) hC dL_refusesAny_252 (by decide) ?_
    refine pg_goto (pc := 253) hC 258 dL_refusesAny_253 (by decide) ?_
    refine pg_callVXi (pc := 258) (As := [.int 0, .int 0]) (rest := []) (v2 := (-2)) (Z3 := Z) hC dL_refusesAny_258 (cX4_add_c l hokw7 n hn hn12 nx kp hnx hnx6 hkp hkp6 0 0) (rf_add1 (Or.inr (by decide +kernel))) (cwV 2 hC.2.2.2.2.1 gL_refusesAny_X4_add rfl rfl rfl (by decide +kernel) ⟨Nat.le_of_ble_eq_true rfl, Nat.le_of_ble_eq_true rfl⟩) (ok_mem hokw7 (by decide)) (ok_Xo hokw7) rfl rfl rfl rfl (Nat.le_of_ble_eq_true rfl) (Nat.zero_le _) (Nat.zero_le _) (fun f8 hokw8 => ?_)
    refine pg_bipush (pc := 261) (v := (-2)) hC dL_refusesAny_261 (by decide) ?_
    refine pg_icmp_ne (pc := 263) hC 474 dL_refusesAny_263 (by decide)  (fun c20 => False.elim (c20 rfl)) (fun c20 => ?_)
    refine pg_aload_n (pc := 266) hC dL_refusesAny_266 5 rfl rfl ?_
    refine pg_iconst (pc := 267) (v := 5) hC dL_refusesAny_267 (by decide) ?_
    refine pg_callVYi (pc := 268) (As := [.int 5]) (rest := []) (v2 := nI n) hC dL_refusesAny_268 (cX4_count_c l hokw8 n hn hn12 5 _ rfl) ((tC _ _).2.2.2.2.2.1.trans hn) (cwV 1 hC.2.2.2.2.1 gL_refusesAny_X4_count rfl rfl rfl (by decide +kernel) ⟨Nat.le_of_ble_eq_true rfl, Nat.le_of_ble_eq_true rfl⟩) (ok_mem hokw8 (by decide)) (ok_Xo hokw8) rfl rfl rfl rfl (Nat.le_of_ble_eq_true rfl) (Nat.zero_le _) (Nat.zero_le _) ?_
    refine pg_bipush (pc := 271) (v := 12) hC dL_refusesAny_271 (by decide) ?_
    refine pg_join (pc := 273) (σ := Nat → va_E) (fun q => match q with | g_1 => pv_ok κ x L g_1 Z) 287 (fun q => match q with | g_1 => [(6, .int an_y), (5, .int (nI (X % 10))), (4, .int ((-(nI X)) - (-(nI X)) / 99 * 99)), (3, .int ((-1) - (nI (X % 99)))), (2, .int ((-1) - (nI (X % 5)))), (0, .ref (x 12 2)), (1, .int (nI X))]) (fun q => match q with | g_1 => []) (fun q => match q with | g_1 => g_1) ?_ (fun j21 => ?_)
    · skip
      intro q hI
      obtain ⟨g_1, rfl⟩ : ∃ z, z = q := ⟨_, rfl⟩
      try dsimp only
      have hokg1 : pv_ok κ x L g_1 Z := hI
      refine pg_aload_n (pc := 287) hC dL_refusesAny_287 5 rfl rfl ?_
      refine pg_iload_n (pc := 288) hC dL_refusesAny_288 3 rfl rfl ?_
      refine pg_iconst (pc := 289) (v := 0) hC dL_refusesAny_289 (by decide) ?_
      refine pg_callVXi (pc := 290) (As := [.int ((-1) - (nI (X % 99))), .int 0]) (rest := []) (v2 := (-1)) (Z3 := Z) hC dL_refusesAny_290 (cX4_worth_c l hokg1 n hn hn12 nx kp hnx hnx6 hkp hkp6 ((-1) - (nI (X % 99))) 0) (rf_worth1 hee) (cwV 2 hC.2.2.2.2.1 gL_refusesAny_X4_worth rfl rfl rfl (by decide +kernel) ⟨Nat.le_of_ble_eq_true rfl, Nat.le_of_ble_eq_true rfl⟩) (ok_mem hokg1 (by decide)) (ok_Xo hokg1) rfl rfl rfl rfl (Nat.le_of_ble_eq_true rfl) (Nat.zero_le _) (Nat.zero_le _) (fun f9 hokw9 => ?_)
      refine pg_iconst (pc := 293) (v := (-1)) hC dL_refusesAny_293 (by decide) ?_
      refine pg_icmp_ne (pc := 294) hC 474 dL_refusesAny_294 (by decide)  (fun c22 => False.elim (c22 rfl)) (fun c22 => ?_)
      refine pg_iload (pc := 297) hC dL_refusesAny_297 0 rfl ?_
      refine pg_join (pc := 299) (σ := Nat → va_E) (fun q => match q with | g_2 => pv_ok κ x L g_2 Z) 324 (fun q => match q with | g_2 => [(6, .int an_y), (5, .int (nI (X % 10))), (4, .int ((-(nI X)) - (-(nI X)) / 99 * 99)), (3, .int ((-1) - (nI (X % 99)))), (2, .int ((-1) - (nI (X % 5)))), (0, .ref (x 12 2)), (1, .int (nI X))]) (fun q => match q with | g_2 => []) (fun q => match q with | g_2 => g_2) ?_ (fun j23 => ?_)
      · skip
        intro q hI
        obtain ⟨g_2, rfl⟩ : ∃ z, z = q := ⟨_, rfl⟩
        try dsimp only
        have hokg2 : pv_ok κ x L g_2 Z := hI
        refine pg_aload_n (pc := 324) hC dL_refusesAny_324 5 rfl rfl ?_
        refine pg_iload_n (pc := 325) hC dL_refusesAny_325 4 rfl rfl ?_
        refine pg_iconst (pc := 326) (v := 0) hC dL_refusesAny_326 (by decide) ?_
        refine pg_bipush (pc := 327) (v := (-6)) hC dL_refusesAny_327 (by decide) ?_
        refine pg_iload (pc := 329) hC dL_refusesAny_329 2 rfl ?_
        refine pg_callVXi (pc := 331) (As := [.int ((-1) - (nI (X % 5))), .int 0, .int (-6), .int ((-(nI X)) - (-(nI X)) / 99 * 99)]) (rest := []) (v2 := (-1)) (Z3 := Z) hC dL_refusesAny_331 (cX4_offer_c l hokg2 n hn hn12 nx kp hnx hnx6 hkp hkp6 ((-1) - (nI (X % 5))) 0 (-6) ((-(nI X)) - (-(nI X)) / 99 * 99)) (rf_off (rf_e1 hpp) (by decide)) (cwV 4 hC.2.2.2.2.1 gL_refusesAny_X4_offer rfl rfl rfl (by decide +kernel) ⟨Nat.le_of_ble_eq_true rfl, Nat.le_of_ble_eq_true rfl⟩) (ok_mem hokg2 (by decide)) (ok_Xo hokg2) rfl rfl rfl rfl (Nat.le_of_ble_eq_true rfl) (Nat.zero_le _) (Nat.zero_le _) (fun f10 hokw10 => ?_)
        refine pg_iconst (pc := 334) (v := (-1)) hC dL_refusesAny_334 (by decide) ?_
        refine pg_icmp_ne (pc := 335) hC 474 dL_refusesAny_335 (by decide)  (fun c24 => False.elim (c24 rfl)) (fun c24 => ?_)
        refine pg_aload_n (pc := 338) hC dL_refusesAny_338 5 rfl rfl ?_
        refine pg_iload (pc := 339) hC dL_refusesAny_339 1 rfl ?_
        refine pg_iload_n (pc := 341) hC dL_refusesAny_341 3 rfl rfl ?_
        refine pg_bipush (pc := 342) (v := (-6)) hC dL_refusesAny_342 (by decide) ?_
        refine pg_iload (pc := 344) hC dL_refusesAny_344 2 rfl ?_
        refine pg_callVXi (pc := 346) (As := [.int (nI (X % 10)), .int ((-1) - (nI (X % 99))), .int (-6), .int ((-(nI X)) - (-(nI X)) / 99 * 99)]) (rest := []) (v2 := (-1)) (Z3 := Z) hC dL_refusesAny_346 (cX4_offer_c l hokw10 n hn hn12 nx kp hnx hnx6 hkp hkp6 (nI (X % 10)) ((-1) - (nI (X % 99))) (-6) ((-(nI X)) - (-(nI X)) / 99 * 99)) (rf_off (rf_e2 hee) (by decide)) (cwV 4 hC.2.2.2.2.1 gL_refusesAny_X4_offer rfl rfl rfl (by decide +kernel) ⟨Nat.le_of_ble_eq_true rfl, Nat.le_of_ble_eq_true rfl⟩) (ok_mem hokw10 (by decide)) (ok_Xo hokw10) rfl rfl rfl rfl (Nat.le_of_ble_eq_true rfl) (Nat.zero_le _) (Nat.zero_le _) (fun f11 hokw11 => ?_)
        refine pg_iconst (pc := 349) (v := (-1)) hC dL_refusesAny_349 (by decide) ?_
        refine pg_icmp_ne (pc := 350) hC 474 dL_refusesAny_350 (by decide)  (fun c25 => False.elim (c25 rfl)) (fun c25 => ?_)
        refine pg_aload_n (pc := 353) hC dL_refusesAny_353 5 rfl rfl ?_
        refine pg_iload (pc := 354) hC dL_refusesAny_354 1 rfl ?_
        refine pg_iconst (pc := 356) (v := 0) hC dL_refusesAny_356 (by decide) ?_
        refine pg_iload_n (pc := 357) hC dL_refusesAny_357 4 rfl rfl ?_
        refine pg_iload (pc := 358) hC dL_refusesAny_358 2 rfl ?_
        refine pg_callVXi (pc := 360) (As := [.int (nI (X % 10)), .int 0, .int ((-1) - (nI (X % 5))), .int ((-(nI X)) - (-(nI X)) / 99 * 99)]) (rest := []) (v2 := (-1)) (Z3 := Z) hC dL_refusesAny_360 (cX4_offer_c l hokw11 n hn hn12 nx kp hnx hnx6 hkp hkp6 (nI (X % 10)) 0 ((-1) - (nI (X % 5))) ((-(nI X)) - (-(nI X)) / 99 * 99)) (rf_off (rf_e3 ⟨hpp6, hpp⟩) (by decide)) (cwV 4 hC.2.2.2.2.1 gL_refusesAny_X4_offer rfl rfl rfl (by decide +kernel) ⟨Nat.le_of_ble_eq_true rfl, Nat.le_of_ble_eq_true rfl⟩) (ok_mem hokw11 (by decide)) (ok_Xo hokw11) rfl rfl rfl rfl (Nat.le_of_ble_eq_true rfl) (Nat.zero_le _) (Nat.zero_le _) (fun f12 hokw12 => ?_)
        refine pg_iconst (pc := 363) (v := (-1)) hC dL_refusesAny_363 (by decide) ?_
        refine pg_icmp_ne (pc := 364) hC 474 dL_refusesAny_364 (by decide)  (fun c26 => False.elim (c26 rfl)) (fun c26 => ?_)
        refine pg_iload (pc := 367) hC dL_refusesAny_367 0 rfl ?_
        refine pg_join (pc := 369) (σ := Nat → va_E) (fun q => match q with | g_3 => pv_ok κ x L g_3 Z) 403 (fun q => match q with | g_3 => [(6, .int an_y), (5, .int (nI (X % 10))), (4, .int ((-(nI X)) - (-(nI X)) / 99 * 99)), (3, .int ((-1) - (nI (X % 99)))), (2, .int ((-1) - (nI (X % 5)))), (0, .ref (x 12 2)), (1, .int (nI X))]) (fun q => match q with | g_3 => []) (fun q => match q with | g_3 => g_3) ?_ (fun j27 => ?_)
        · skip
          intro q hI
          obtain ⟨g_3, rfl⟩ : ∃ z, z = q := ⟨_, rfl⟩
          try dsimp only
          have hokg3 : pv_ok κ x L g_3 Z := hI
          refine pg_aload_n (pc := 403) hC dL_refusesAny_403 5 rfl rfl ?_
          refine pg_iload_n (pc := 404) hC dL_refusesAny_404 4 rfl rfl ?_
          refine pg_iconst (pc := 405) (v := 0) hC dL_refusesAny_405 (by decide) ?_
          refine pg_callVXi (pc := 406) (As := [.int ((-1) - (nI (X % 5))), .int 0]) (rest := []) (v2 := (-1)) (Z3 := Z) hC dL_refusesAny_406 (cX4_pay_c l hokg3 nx kp hnx hnx6 hkp hkp6 ((-1) - (nI (X % 5))) 0) (rf_pay1 hpp) (cwV 2 hC.2.2.2.2.1 gL_refusesAny_X4_pay rfl rfl rfl (by decide +kernel) ⟨Nat.le_of_ble_eq_true rfl, Nat.le_of_ble_eq_true rfl⟩) (ok_mem hokg3 (by decide)) (ok_Xo hokg3) rfl rfl rfl rfl (Nat.le_of_ble_eq_true rfl) (Nat.zero_le _) (Nat.zero_le _) (fun f13 hokw13 => ?_)
          refine pg_iconst (pc := 409) (v := (-1)) hC dL_refusesAny_409 (by decide) ?_
          refine pg_icmp_ne (pc := 410) hC 474 dL_refusesAny_410 (by decide)  (fun c28 => False.elim (c28 rfl)) (fun c28 => ?_)
          refine pg_aload_n (pc := 413) hC dL_refusesAny_413 5 rfl rfl ?_
          refine pg_iload (pc := 414) hC dL_refusesAny_414 1 rfl ?_
          refine pg_iload_n (pc := 416) hC dL_refusesAny_416 6 rfl rfl ?_
          refine pg_iconst (pc := 417) (v := 2) hC dL_refusesAny_417 (by decide) ?_
          refine pg_irem (pc := 418) (v := nI (X % 2)) hC dL_refusesAny_418 (by decide) (pk_rem (a := X) (d := 2) (by omega) (by omega) (by omega)) ?_
          refine pg_if_ne (pc := 419) hC 426 dL_refusesAny_419 (by decide)  (fun c29 => False.elim (c29 ((nI_z (by omega)).mpr hx))) (fun c29 => ?_)
          refine pg_iconst (pc := 422) (v := 0) hC dL_refusesAny_422 (by decide) ?_
          refine pg_goto (pc := 423) hC 429 dL_refusesAny_423 (by decide) ?_
          refine pg_callVXi (pc := 429) (As := [.int (nI (X % 10)), .int 0]) (rest := []) (v2 := (-2)) (Z3 := Z) hC dL_refusesAny_429 (cX4_pay_c l hokw13 nx kp hnx hnx6 hkp hkp6 (nI (X % 10)) 0) (rf_pay2 (tPx hso) (by decide +kernel)) (cwV 2 hC.2.2.2.2.1 gL_refusesAny_X4_pay rfl rfl rfl (by decide +kernel) ⟨Nat.le_of_ble_eq_true rfl, Nat.le_of_ble_eq_true rfl⟩) (ok_mem hokw13 (by decide)) (ok_Xo hokw13) rfl rfl rfl rfl (Nat.le_of_ble_eq_true rfl) (Nat.zero_le _) (Nat.zero_le _) (fun f14 hokw14 => ?_)
          refine pg_bipush (pc := 432) (v := (-2)) hC dL_refusesAny_432 (by decide) ?_
          refine pg_icmp_ne (pc := 434) hC 474 dL_refusesAny_434 (by decide)  (fun c30 => False.elim (c30 rfl)) (fun c30 => ?_)
          refine pg_aload_n (pc := 437) hC dL_refusesAny_437 5 rfl rfl ?_
          refine pg_iload (pc := 438) hC dL_refusesAny_438 1 rfl ?_
          refine pg_iconst (pc := 440) (v := 1) hC dL_refusesAny_440 (by decide) ?_
          refine pg_callVYi (pc := 441) (As := [.int (nI (X % 10)), .int 1]) (rest := []) (v2 := Z 0 7 (X % 10)) hC dL_refusesAny_441 (cX4_pupil_c l hokw14 (nI (X % 10)) 1) (tP1 (by omega)) (cwV 2 hC.2.2.2.2.1 gL_refusesAny_X4_pupil rfl rfl rfl (by decide +kernel) ⟨Nat.le_of_ble_eq_true rfl, Nat.le_of_ble_eq_true rfl⟩) (ok_mem hokw14 (by decide)) (ok_Xo hokw14) rfl rfl rfl rfl (Nat.le_of_ble_eq_true rfl) (Nat.zero_le _) (Nat.zero_le _) ?_
          refine pg_sipush (pc := 444) (v := 9998) hC dL_refusesAny_444 (by decide) ?_
          refine pg_join (pc := 447) (σ := Nat → va_E) (fun q => match q with | g_4 => pv_ok κ x L g_4 Z) 470 (fun q => match q with | g_4 => [(6, .int an_y), (5, .int (nI (X % 10))), (4, .int ((-(nI X)) - (-(nI X)) / 99 * 99)), (3, .int ((-1) - (nI (X % 99)))), (2, .int ((-1) - (nI (X % 5)))), (0, .ref (x 12 2)), (1, .int (nI X))]) (fun q => match q with | g_4 => []) (fun q => match q with | g_4 => g_4) ?_ (fun j31 => ?_)
          · skip
            intro q hI
            obtain ⟨g_4, rfl⟩ : ∃ z, z = q := ⟨_, rfl⟩
            try dsimp only
            have hokg4 : pv_ok κ x L g_4 Z := hI
            refine pg_iconst (pc := 470) (v := 1) hC dL_refusesAny_470 (by decide) ?_
            refine pg_goto (pc := 471) hC 475 dL_refusesAny_471 (by decide) ?_
            refine pg_istore (pc := 475) (vs' := [(7, .int 1), (6, .int an_y), (5, .int (nI (X % 10))), (4, .int ((-(nI X)) - (-(nI X)) / 99 * 99)), (3, .int ((-1) - (nI (X % 99)))), (2, .int ((-1) - (nI (X % 5)))), (0, .ref (x 12 2)), (1, .int (nI X))]) hC dL_refusesAny_475 (by decide) rfl ?_
            refine pg_iload (pc := 477) hC dL_refusesAny_477 0 rfl ?_
            refine pg_if_eq (pc := 479) hC 802 dL_refusesAny_479 (by decide)  (fun c32 => False.elim (absurd c32 (by decide))) (fun c32 => ?_)
            refine pg_aload_n (pc := 482) hC dL_refusesAny_482 6 rfl rfl ?_
            refine pg_iload_n (pc := 483) hC dL_refusesAny_483 4 rfl rfl ?_
            refine pg_bipush (pc := 484) (v := 99) hC dL_refusesAny_484 (by decide) ?_
            refine pg_callVYi (pc := 486) (As := [.int ((-1) - (nI (X % 99))), .int 99]) (rest := []) (v2 := (-1)) hC dL_refusesAny_486 (cX4_excuse_c l hokg4 n hn hn12 ((-1) - (nI (X % 99))) 99) (rf_ex1 hee) (cwV 2 hC.2.2.2.2.1 gL_refusesAny_X4_excuse rfl rfl rfl (by decide +kernel) ⟨Nat.le_of_ble_eq_true rfl, Nat.le_of_ble_eq_true rfl⟩) (ok_mem hokg4 (by decide)) (ok_Xo hokg4) rfl rfl rfl rfl (Nat.le_of_ble_eq_true rfl) (Nat.zero_le _) (Nat.zero_le _) ?_
            refine pg_iconst (pc := 489) (v := (-1)) hC dL_refusesAny_489 (by decide) ?_
            refine pg_icmp_ne (pc := 490) hC 802 dL_refusesAny_490 (by decide)  (fun c33 => False.elim (c33 rfl)) (fun c33 => ?_)
            refine pg_iload (pc := 493) hC dL_refusesAny_493 1 rfl ?_
            refine pg_join (pc := 495) (σ := Nat → va_E) (fun q => match q with | g_5 => pv_ok κ x L g_5 Z) 519 (fun q => match q with | g_5 => [(7, .int 1), (6, .int an_y), (5, .int (nI (X % 10))), (4, .int ((-(nI X)) - (-(nI X)) / 99 * 99)), (3, .int ((-1) - (nI (X % 99)))), (2, .int ((-1) - (nI (X % 5)))), (0, .ref (x 12 2)), (1, .int (nI X))]) (fun q => match q with | g_5 => []) (fun q => match q with | g_5 => g_5) ?_ (fun j34 => ?_)
            · skip
              intro q hI
              obtain ⟨g_5, rfl⟩ : ∃ z, z = q := ⟨_, rfl⟩
              try dsimp only
              have hokg5 : pv_ok κ x L g_5 Z := hI
              refine pg_aload_n (pc := 519) hC dL_refusesAny_519 6 rfl rfl ?_
              refine pg_iload_n (pc := 520) hC dL_refusesAny_520 5 rfl rfl ?_
              refine pg_bipush (pc := 521) (v := 99) hC dL_refusesAny_521 (by decide) ?_
              refine pg_callVYi (pc := 523) (As := [.int ((-1) - (nI (X % 5))), .int 99]) (rest := []) (v2 := (-1)) hC dL_refusesAny_523 (cX4_pupil_c l hokg5 ((-1) - (nI (X % 5))) 99) (rf_pu1 hpp) (cwV 2 hC.2.2.2.2.1 gL_refusesAny_X4_pupil rfl rfl rfl (by decide +kernel) ⟨Nat.le_of_ble_eq_true rfl, Nat.le_of_ble_eq_true rfl⟩) (ok_mem hokg5 (by decide)) (ok_Xo hokg5) rfl rfl rfl rfl (Nat.le_of_ble_eq_true rfl) (Nat.zero_le _) (Nat.zero_le _) ?_
              refine pg_iconst (pc := 526) (v := (-1)) hC dL_refusesAny_526 (by decide) ?_
              refine pg_icmp_ne (pc := 527) hC 802 dL_refusesAny_527 (by decide)  (fun c35 => False.elim (c35 rfl)) (fun c35 => ?_)
              refine pg_aload_n (pc := 530) hC dL_refusesAny_530 6 rfl rfl ?_
              refine pg_iload (pc := 531) hC dL_refusesAny_531 2 rfl ?_
              refine pg_iload_n (pc := 533) hC dL_refusesAny_533 7 rfl rfl ?_
              refine pg_iconst (pc := 534) (v := 2) hC dL_refusesAny_534 (by decide) ?_
              refine pg_irem (pc := 535) (v := nI (X % 2)) hC dL_refusesAny_535 (by decide) (pk_rem (a := X) (d := 2) (by omega) (by omega) (by omega)) ?_
              refine pg_if_ne (pc := 536) hC 543 dL_refusesAny_536 (by decide)  (fun c36 => False.elim (c36 ((nI_z (by omega)).mpr hx))) (fun c36 => ?_)
              refine pg_iconst (pc := 539) (v := (-1)) hC dL_refusesAny_539 (by decide) ?_
              refine pg_goto (pc := 540) hC 545 dL_refusesAny_540 (by decide) ?_
              refine pg_callVYi (pc := 545) (As := [.int (nI (X % 10)), .int (-1)]) (rest := []) (v2 := (-2)) hC dL_refusesAny_545 (cX4_pupil_c l hokg5 (nI (X % 10)) (-1)) (rf_pu2 (tPx hso) (by decide)) (cwV 2 hC.2.2.2.2.1 gL_refusesAny_X4_pupil rfl rfl rfl (by decide +kernel) ⟨Nat.le_of_ble_eq_true rfl, Nat.le_of_ble_eq_true rfl⟩) (ok_mem hokg5 (by decide)) (ok_Xo hokg5) rfl rfl rfl rfl (Nat.le_of_ble_eq_true rfl) (Nat.zero_le _) (Nat.zero_le _) ?_
              refine pg_bipush (pc := 548) (v := (-2)) hC dL_refusesAny_548 (by decide) ?_
              refine pg_icmp_ne (pc := 550) hC 802 dL_refusesAny_550 (by decide)  (fun c37 => False.elim (c37 rfl)) (fun c37 => ?_)
              refine pg_aload_n (pc := 553) hC dL_refusesAny_553 6 rfl rfl ?_
              refine pg_iload_n (pc := 554) hC dL_refusesAny_554 5 rfl rfl ?_
              refine pg_iconst (pc := 555) (v := 0) hC dL_refusesAny_555 (by decide) ?_
              refine pg_callVYi (pc := 556) (As := [.int ((-1) - (nI (X % 5))), .int 0]) (rest := []) (v2 := (-1)) hC dL_refusesAny_556 (cX4_novelty_c l hokg5 n hn hn12 ((-1) - (nI (X % 5))) 0) (rf_no1 hpp) (cwV 2 hC.2.2.2.2.1 gL_refusesAny_X4_novelty rfl rfl rfl (by decide +kernel) ⟨Nat.le_of_ble_eq_true rfl, Nat.le_of_ble_eq_true rfl⟩) (ok_mem hokg5 (by decide)) (ok_Xo hokg5) rfl rfl rfl rfl (Nat.le_of_ble_eq_true rfl) (Nat.zero_le _) (Nat.zero_le _) ?_
              refine pg_iconst (pc := 559) (v := (-1)) hC dL_refusesAny_559 (by decide) ?_
              refine pg_icmp_ne (pc := 560) hC 802 dL_refusesAny_560 (by decide)  (fun c38 => False.elim (c38 rfl)) (fun c38 => ?_)
              refine pg_aload_n (pc := 563) hC dL_refusesAny_563 6 rfl rfl ?_
              refine pg_iload (pc := 564) hC dL_refusesAny_564 2 rfl ?_
              refine pg_iload_n (pc := 566) hC dL_refusesAny_566 4 rfl rfl ?_
              refine pg_callVYi (pc := 567) (As := [.int (nI (X % 10)), .int ((-1) - (nI (X % 99)))]) (rest := []) (v2 := (-1)) hC dL_refusesAny_567 (cX4_novelty_c l hokg5 n hn hn12 (nI (X % 10)) ((-1) - (nI (X % 99)))) (rf_no2 hee) (cwV 2 hC.2.2.2.2.1 gL_refusesAny_X4_novelty rfl rfl rfl (by decide +kernel) ⟨Nat.le_of_ble_eq_true rfl, Nat.le_of_ble_eq_true rfl⟩) (ok_mem hokg5 (by decide)) (ok_Xo hokg5) rfl rfl rfl rfl (Nat.le_of_ble_eq_true rfl) (Nat.zero_le _) (Nat.zero_le _) ?_
              refine pg_iconst (pc := 570) (v := (-1)) hC dL_refusesAny_570 (by decide) ?_
              refine pg_icmp_ne (pc := 571) hC 802 dL_refusesAny_571 (by decide)  (fun c39 => False.elim (c39 rfl)) (fun c39 => ?_)
              refine pg_aload_n (pc := 574) hC dL_refusesAny_574 6 rfl rfl ?_
              refine pg_iload_n (pc := 575) hC dL_refusesAny_575 5 rfl rfl ?_
              refine pg_iconst (pc := 576) (v := 0) hC dL_refusesAny_576 (by decide) ?_
              refine pg_bipush (pc := 577) (v := (-6)) hC dL_refusesAny_577 (by decide) ?_
              refine pg_iload (pc := 579) hC dL_refusesAny_579 3 rfl ?_
              refine pg_callVYi (pc := 581) (As := [.int ((-1) - (nI (X % 5))), .int 0, .int (-6), .int ((-(nI X)) - (-(nI X)) / 99 * 99)]) (rest := []) (v2 := (-1)) hC dL_refusesAny_581 (cX4_why_c l hokg5 n hn hn12 ((-1) - (nI (X % 5))) 0 (-6) ((-(nI X)) - (-(nI X)) / 99 * 99)) (rf_why (rf_e1 hpp) (by decide)) (cwV 4 hC.2.2.2.2.1 gL_refusesAny_X4_why rfl rfl rfl (by decide +kernel) ⟨Nat.le_of_ble_eq_true rfl, Nat.le_of_ble_eq_true rfl⟩) (ok_mem hokg5 (by decide)) (ok_Xo hokg5) rfl rfl rfl rfl (Nat.le_of_ble_eq_true rfl) (Nat.zero_le _) (Nat.zero_le _) ?_
              refine pg_iconst (pc := 584) (v := (-1)) hC dL_refusesAny_584 (by decide) ?_
              refine pg_icmp_ne (pc := 585) hC 802 dL_refusesAny_585 (by decide)  (fun c40 => False.elim (c40 rfl)) (fun c40 => ?_)
              refine pg_aload_n (pc := 588) hC dL_refusesAny_588 6 rfl rfl ?_
              refine pg_iload (pc := 589) hC dL_refusesAny_589 2 rfl ?_
              refine pg_iload_n (pc := 591) hC dL_refusesAny_591 4 rfl rfl ?_
              refine pg_iload (pc := 592) hC dL_refusesAny_592 2 rfl ?_
              refine pg_iload (pc := 594) hC dL_refusesAny_594 3 rfl ?_
              refine pg_callVYi (pc := 596) (As := [.int (nI (X % 10)), .int ((-1) - (nI (X % 99))), .int (nI (X % 10)), .int ((-(nI X)) - (-(nI X)) / 99 * 99)]) (rest := []) (v2 := (-1)) hC dL_refusesAny_596 (cX4_why_c l hokg5 n hn hn12 (nI (X % 10)) ((-1) - (nI (X % 99))) (nI (X % 10)) ((-(nI X)) - (-(nI X)) / 99 * 99)) (rf_why (rf_e2 hee) (by decide)) (cwV 4 hC.2.2.2.2.1 gL_refusesAny_X4_why rfl rfl rfl (by decide +kernel) ⟨Nat.le_of_ble_eq_true rfl, Nat.le_of_ble_eq_true rfl⟩) (ok_mem hokg5 (by decide)) (ok_Xo hokg5) rfl rfl rfl rfl (Nat.le_of_ble_eq_true rfl) (Nat.zero_le _) (Nat.zero_le _) ?_
              refine pg_iconst (pc := 599) (v := (-1)) hC dL_refusesAny_599 (by decide) ?_
              refine pg_icmp_ne (pc := 600) hC 802 dL_refusesAny_600 (by decide)  (fun c41 => False.elim (c41 rfl)) (fun c41 => ?_)
              refine pg_aload_n (pc := 603) hC dL_refusesAny_603 6 rfl rfl ?_
              refine pg_iload (pc := 604) hC dL_refusesAny_604 2 rfl ?_
              refine pg_iconst (pc := 606) (v := 0) hC dL_refusesAny_606 (by decide) ?_
              refine pg_iload_n (pc := 607) hC dL_refusesAny_607 5 rfl rfl ?_
              refine pg_iload (pc := 608) hC dL_refusesAny_608 3 rfl ?_
              refine pg_callVYi (pc := 610) (As := [.int (nI (X % 10)), .int 0, .int ((-1) - (nI (X % 5))), .int ((-(nI X)) - (-(nI X)) / 99 * 99)]) (rest := []) (v2 := (-1)) hC dL_refusesAny_610 (cX4_weight_c l hokg5 n hn hn12 (nI (X % 10)) 0 ((-1) - (nI (X % 5))) ((-(nI X)) - (-(nI X)) / 99 * 99)) (rf_wei (rf_e3 ⟨hpp6, hpp⟩) (by decide)) (cwV 4 hC.2.2.2.2.1 gL_refusesAny_X4_weight rfl rfl rfl (by decide +kernel) ⟨Nat.le_of_ble_eq_true rfl, Nat.le_of_ble_eq_true rfl⟩) (ok_mem hokg5 (by decide)) (ok_Xo hokg5) rfl rfl rfl rfl (Nat.le_of_ble_eq_true rfl) (Nat.zero_le _) (Nat.zero_le _) ?_
              refine pg_iconst (pc := 613) (v := (-1)) hC dL_refusesAny_613 (by decide) ?_
              refine pg_icmp_ne (pc := 614) hC 802 dL_refusesAny_614 (by decide)  (fun c42 => False.elim (c42 rfl)) (fun c42 => ?_)
              refine pg_iload (pc := 617) hC dL_refusesAny_617 1 rfl ?_
              refine pg_join (pc := 619) (σ := Nat → va_E) (fun q => match q with | g_6 => pv_ok κ x L g_6 Z) 667 (fun q => match q with | g_6 => [(7, .int 1), (6, .int an_y), (5, .int (nI (X % 10))), (4, .int ((-(nI X)) - (-(nI X)) / 99 * 99)), (3, .int ((-1) - (nI (X % 99)))), (2, .int ((-1) - (nI (X % 5)))), (0, .ref (x 12 2)), (1, .int (nI X))]) (fun q => match q with | g_6 => []) (fun q => match q with | g_6 => g_6) ?_ (fun j43 => ?_)
              · skip
                intro q hI
                obtain ⟨g_6, rfl⟩ : ∃ z, z = q := ⟨_, rfl⟩
                try dsimp only
                have hokg6 : pv_ok κ x L g_6 Z := hI
                refine pg_aload_n (pc := 667) hC dL_refusesAny_667 6 rfl rfl ?_
                refine pg_iload_n (pc := 668) hC dL_refusesAny_668 7 rfl rfl ?_
                refine pg_iconst (pc := 669) (v := 2) hC dL_refusesAny_669 (by decide) ?_
                refine pg_irem (pc := 670) (v := nI (X % 2)) hC dL_refusesAny_670 (by decide) (pk_rem (a := X) (d := 2) (by omega) (by omega) (by omega)) ?_
                refine pg_if_ne (pc := 671) hC 678 dL_refusesAny_671 (by decide)  (fun c44 => False.elim (c44 ((nI_z (by omega)).mpr hx))) (fun c44 => ?_)
                refine pg_iconst (pc := 674) (v := (-1)) hC dL_refusesAny_674 (by decide) ?_
                refine pg_goto (pc := 675) hC 680 dL_refusesAny_675 (by decide) ?_
                refine pg_callVYi (pc := 680) (As := [.int (-1)]) (rest := []) (v2 := (-2)) hC dL_refusesAny_680 (cX4_count_c l hokg6 n hn hn12 (-1) _ rfl) rfl (cwV 1 hC.2.2.2.2.1 gL_refusesAny_X4_count rfl rfl rfl (by decide +kernel) ⟨Nat.le_of_ble_eq_true rfl, Nat.le_of_ble_eq_true rfl⟩) (ok_mem hokg6 (by decide)) (ok_Xo hokg6) rfl rfl rfl rfl (Nat.le_of_ble_eq_true rfl) (Nat.zero_le _) (Nat.zero_le _) ?_
                refine pg_bipush (pc := 683) (v := (-2)) hC dL_refusesAny_683 (by decide) ?_
                refine pg_icmp_ne (pc := 685) hC 802 dL_refusesAny_685 (by decide)  (fun c45 => False.elim (c45 rfl)) (fun c45 => ?_)
                refine pg_aload_n (pc := 688) hC dL_refusesAny_688 6 rfl rfl ?_
                refine pg_iload_n (pc := 689) hC dL_refusesAny_689 5 rfl rfl ?_
                refine pg_iload (pc := 690) hC dL_refusesAny_690 3 rfl ?_
                refine pg_callVYi (pc := 692) (As := [.int ((-1) - (nI (X % 5))), .int ((-(nI X)) - (-(nI X)) / 99 * 99)]) (rest := []) (v2 := (-1)) hC dL_refusesAny_692 (cX4_bestExcuse_c l hokg6 n hn hn12 ((-1) - (nI (X % 5))) ((-(nI X)) - (-(nI X)) / 99 * 99)) (rf_be1 hpp) (cwV 2 hC.2.2.2.2.1 gL_refusesAny_X4_bestExcuse rfl rfl rfl (by decide +kernel) ⟨Nat.le_of_ble_eq_true rfl, Nat.le_of_ble_eq_true rfl⟩) (ok_mem hokg6 (by decide)) (ok_Xo hokg6) rfl rfl rfl rfl (Nat.le_of_ble_eq_true rfl) (Nat.zero_le _) (Nat.zero_le _) ?_
                refine pg_iconst (pc := 695) (v := (-1)) hC dL_refusesAny_695 (by decide) ?_
                refine pg_icmp_ne (pc := 696) hC 802 dL_refusesAny_696 (by decide)  (fun c46 => False.elim (c46 rfl)) (fun c46 => ?_)
                refine pg_aload_n (pc := 699) hC dL_refusesAny_699 6 rfl rfl ?_
                refine pg_iload (pc := 700) hC dL_refusesAny_700 2 rfl ?_
                refine pg_iload (pc := 702) hC dL_refusesAny_702 3 rfl ?_
                refine pg_callVYi (pc := 704) (As := [.int (nI (X % 10)), .int ((-(nI X)) - (-(nI X)) / 99 * 99)]) (rest := []) (v2 := (-2)) hC dL_refusesAny_704 (cX4_bestExcuse_c l hokg6 n hn hn12 (nI (X % 10)) ((-(nI X)) - (-(nI X)) / 99 * 99)) (rf_be2 (tPx hso) hmm) (cwV 2 hC.2.2.2.2.1 gL_refusesAny_X4_bestExcuse rfl rfl rfl (by decide +kernel) ⟨Nat.le_of_ble_eq_true rfl, Nat.le_of_ble_eq_true rfl⟩) (ok_mem hokg6 (by decide)) (ok_Xo hokg6) rfl rfl rfl rfl (Nat.le_of_ble_eq_true rfl) (Nat.zero_le _) (Nat.zero_le _) ?_
                refine pg_bipush (pc := 707) (v := (-2)) hC dL_refusesAny_707 (by decide) ?_
                refine pg_icmp_ne (pc := 709) hC 802 dL_refusesAny_709 (by decide)  (fun c47 => False.elim (c47 rfl)) (fun c47 => ?_)
                refine pg_aload_n (pc := 712) hC dL_refusesAny_712 6 rfl rfl ?_
                refine pg_iload_n (pc := 713) hC dL_refusesAny_713 5 rfl rfl ?_
                refine pg_iconst (pc := 714) (v := 0) hC dL_refusesAny_714 (by decide) ?_
                refine pg_iload (pc := 715) hC dL_refusesAny_715 3 rfl ?_
                refine pg_callVYi (pc := 717) (As := [.int ((-1) - (nI (X % 5))), .int 0, .int ((-(nI X)) - (-(nI X)) / 99 * 99)]) (rest := []) (v2 := (-1)) hC dL_refusesAny_717 (cX4_bestWitness_c l hokg6 n hn hn12 ((-1) - (nI (X % 5))) 0 ((-(nI X)) - (-(nI X)) / 99 * 99)) (rf_bw1 hpp) (cwV 3 hC.2.2.2.2.1 gL_refusesAny_X4_bestWitness rfl rfl rfl (by decide +kernel) ⟨Nat.le_of_ble_eq_true rfl, Nat.le_of_ble_eq_true rfl⟩) (ok_mem hokg6 (by decide)) (ok_Xo hokg6) rfl rfl rfl rfl (Nat.le_of_ble_eq_true rfl) (Nat.zero_le _) (Nat.zero_le _) ?_
                refine pg_iconst (pc := 720) (v := (-1)) hC dL_refusesAny_720 (by decide) ?_
                refine pg_icmp_ne (pc := 721) hC 802 dL_refusesAny_721 (by decide)  (fun c48 => False.elim (c48 rfl)) (fun c48 => ?_)
                refine pg_aload_n (pc := 724) hC dL_refusesAny_724 6 rfl rfl ?_
                refine pg_iload (pc := 725) hC dL_refusesAny_725 2 rfl ?_
                refine pg_iload_n (pc := 727) hC dL_refusesAny_727 4 rfl rfl ?_
                refine pg_iload (pc := 728) hC dL_refusesAny_728 3 rfl ?_
                refine pg_callVYi (pc := 730) (As := [.int (nI (X % 10)), .int ((-1) - (nI (X % 99))), .int ((-(nI X)) - (-(nI X)) / 99 * 99)]) (rest := []) (v2 := (-1)) hC dL_refusesAny_730 (cX4_bestWitness_c l hokg6 n hn hn12 (nI (X % 10)) ((-1) - (nI (X % 99))) ((-(nI X)) - (-(nI X)) / 99 * 99)) (rf_bw2 hee) (cwV 3 hC.2.2.2.2.1 gL_refusesAny_X4_bestWitness rfl rfl rfl (by decide +kernel) ⟨Nat.le_of_ble_eq_true rfl, Nat.le_of_ble_eq_true rfl⟩) (ok_mem hokg6 (by decide)) (ok_Xo hokg6) rfl rfl rfl rfl (Nat.le_of_ble_eq_true rfl) (Nat.zero_le _) (Nat.zero_le _) ?_
                refine pg_iconst (pc := 733) (v := (-1)) hC dL_refusesAny_733 (by decide) ?_
                refine pg_icmp_ne (pc := 734) hC 802 dL_refusesAny_734 (by decide)  (fun c49 => False.elim (c49 rfl)) (fun c49 => ?_)
                refine pg_aload_n (pc := 737) hC dL_refusesAny_737 6 rfl rfl ?_
                refine pg_iload_n (pc := 738) hC dL_refusesAny_738 5 rfl rfl ?_
                refine pg_iconst (pc := 739) (v := 0) hC dL_refusesAny_739 (by decide) ?_
                refine pg_callVYi (pc := 740) (As := [.int ((-1) - (nI (X % 5))), .int 0]) (rest := []) (v2 := (-1)) hC dL_refusesAny_740 (cX4_mostMinutes_c l hokg6 n hn hn12 ((-1) - (nI (X % 5))) 0) (rf_mo1 hpp) (cwV 2 hC.2.2.2.2.1 gL_refusesAny_X4_mostMinutes rfl rfl rfl (by decide +kernel) ⟨Nat.le_of_ble_eq_true rfl, Nat.le_of_ble_eq_true rfl⟩) (ok_mem hokg6 (by decide)) (ok_Xo hokg6) rfl rfl rfl rfl (Nat.le_of_ble_eq_true rfl) (Nat.zero_le _) (Nat.zero_le _) ?_
                refine pg_iconst (pc := 743) (v := (-1)) hC dL_refusesAny_743 (by decide) ?_
                refine pg_icmp_ne (pc := 744) hC 802 dL_refusesAny_744 (by decide)  (fun c50 => False.elim (c50 rfl)) (fun c50 => ?_)
                refine pg_aload_n (pc := 747) hC dL_refusesAny_747 6 rfl rfl ?_
                refine pg_iload (pc := 748) hC dL_refusesAny_748 2 rfl ?_
                refine pg_iload_n (pc := 750) hC dL_refusesAny_750 4 rfl rfl ?_
                refine pg_callVYi (pc := 751) (As := [.int (nI (X % 10)), .int ((-1) - (nI (X % 99)))]) (rest := []) (v2 := (-1)) hC dL_refusesAny_751 (cX4_mostMinutes_c l hokg6 n hn hn12 (nI (X % 10)) ((-1) - (nI (X % 99)))) (rf_mo2 hee) (cwV 2 hC.2.2.2.2.1 gL_refusesAny_X4_mostMinutes rfl rfl rfl (by decide +kernel) ⟨Nat.le_of_ble_eq_true rfl, Nat.le_of_ble_eq_true rfl⟩) (ok_mem hokg6 (by decide)) (ok_Xo hokg6) rfl rfl rfl rfl (Nat.le_of_ble_eq_true rfl) (Nat.zero_le _) (Nat.zero_le _) ?_
                refine pg_iconst (pc := 754) (v := (-1)) hC dL_refusesAny_754 (by decide) ?_
                refine pg_icmp_ne (pc := 755) hC 802 dL_refusesAny_755 (by decide)  (fun c51 => False.elim (c51 rfl)) (fun c51 => ?_)
                refine pg_aload_n (pc := 758) hC dL_refusesAny_758 6 rfl rfl ?_
                refine pg_iload_n (pc := 759) hC dL_refusesAny_759 7 rfl rfl ?_
                refine pg_iconst (pc := 760) (v := 2) hC dL_refusesAny_760 (by decide) ?_
                refine pg_irem (pc := 761) (v := nI (X % 2)) hC dL_refusesAny_761 (by decide) (pk_rem (a := X) (d := 2) (by omega) (by omega) (by omega)) ?_
                refine pg_if_ne (pc := 762) hC 769 dL_refusesAny_762 (by decide)  (fun c52 => False.elim (c52 ((nI_z (by omega)).mpr hx))) (fun c52 => ?_)
                refine pg_iconst (pc := 765) (v := (-1)) hC dL_refusesAny_765 (by decide) ?_
                refine pg_goto (pc := 766) hC 770 dL_refusesAny_766 (by decide) ?_
                refine pg_callVXi (pc := 770) (As := [.int (-1)]) (rest := []) (v2 := (-2)) (Z3 := Z) hC dL_refusesAny_770 (cX4_save_c l hokg6 (-1)) (rf_save (by decide +kernel)) (cwV 1 hC.2.2.2.2.1 gL_refusesAny_X4_save rfl rfl rfl (by decide +kernel) ⟨Nat.le_of_ble_eq_true rfl, Nat.le_of_ble_eq_true rfl⟩) (ok_mem hokg6 (by decide)) (ok_Xo hokg6) rfl rfl rfl rfl (Nat.le_of_ble_eq_true rfl) (Nat.zero_le _) (Nat.zero_le _) (fun f15 hokw15 => ?_)
                refine pg_bipush (pc := 773) (v := (-2)) hC dL_refusesAny_773 (by decide) ?_
                refine pg_icmp_ne (pc := 775) hC 802 dL_refusesAny_775 (by decide)  (fun c53 => False.elim (c53 rfl)) (fun c53 => ?_)
                refine pg_aload_n (pc := 778) hC dL_refusesAny_778 6 rfl rfl ?_
                refine pg_iload_n (pc := 779) hC dL_refusesAny_779 7 rfl rfl ?_
                refine pg_iconst (pc := 780) (v := 2) hC dL_refusesAny_780 (by decide) ?_
                refine pg_irem (pc := 781) (v := nI (X % 2)) hC dL_refusesAny_781 (by decide) (pk_rem (a := X) (d := 2) (by omega) (by omega) (by omega)) ?_
                refine pg_if_ne (pc := 782) hC 789 dL_refusesAny_782 (by decide)  (fun c54 => False.elim (c54 ((nI_z (by omega)).mpr hx))) (fun c54 => ?_)
                refine pg_iconst (pc := 785) (v := (-1)) hC dL_refusesAny_785 (by decide) ?_
                refine pg_goto (pc := 786) hC 790 dL_refusesAny_786 (by decide) ?_
                refine pg_callVXi (pc := 790) (As := [.int (-1)]) (rest := []) (v2 := (-2)) (Z3 := Z) hC dL_refusesAny_790 (cX4_restore_c l hokw15 nx kp hnx hnx6 hkp hkp6 (-1)) (rf_rest (by decide +kernel)) (cwV 1 hC.2.2.2.2.1 gL_refusesAny_X4_restore rfl rfl rfl (by decide +kernel) ⟨Nat.le_of_ble_eq_true rfl, Nat.le_of_ble_eq_true rfl⟩) (ok_mem hokw15 (by decide)) (ok_Xo hokw15) rfl rfl rfl rfl (Nat.le_of_ble_eq_true rfl) (Nat.zero_le _) (Nat.zero_le _) (fun f16 hokw16 => ?_)
                refine pg_bipush (pc := 793) (v := (-2)) hC dL_refusesAny_793 (by decide) ?_
                refine pg_icmp_ne (pc := 795) hC 802 dL_refusesAny_795 (by decide)  (fun c55 => False.elim (c55 rfl)) (fun c55 => ?_)
                refine pg_iconst (pc := 798) (v := 1) hC dL_refusesAny_798 (by decide) ?_
                refine pg_goto (pc := 799) hC 803 dL_refusesAny_799 (by decide) ?_
                refine pg_istore (pc := 803) (vs' := [(7, .int 1), (6, .int an_y), (5, .int (nI (X % 10))), (4, .int ((-(nI X)) - (-(nI X)) / 99 * 99)), (3, .int ((-1) - (nI (X % 99)))), (2, .int ((-1) - (nI (X % 5)))), (0, .ref (x 12 2)), (1, .int (nI X))]) hC dL_refusesAny_803 (by decide) rfl ?_
                refine pg_iload (pc := 805) hC dL_refusesAny_805 0 rfl ?_
                refine pg_if_eq (pc := 807) hC 837 dL_refusesAny_807 (by decide)  (fun c56 => False.elim (absurd c56 (by decide))) (fun c56 => ?_)
                refine pg_aload_n (pc := 810) hC dL_refusesAny_810 6 rfl rfl ?_
                refine pg_callVXi (pc := 811) (As := []) (rest := []) (v2 := 0) (Z3 := (va_up Z 9 (zu (Z 9) 1 0 0))) hC dL_refusesAny_811 (cX4_wipe_c l hokw16) ⟨hpl, rfl⟩ (cwV 0 hC.2.2.2.2.1 gL_refusesAny_X4_wipe rfl rfl rfl (by decide +kernel) ⟨Nat.le_of_ble_eq_true rfl, Nat.le_of_ble_eq_true rfl⟩) (ok_mem hokw16 (by decide)) (ok_Xo hokw16) rfl rfl rfl rfl (Nat.le_of_ble_eq_true rfl) (Nat.zero_le _) (Nat.zero_le _) (fun f17 hokw17 => ?_)
                refine pg_if_ne (pc := 814) hC 837 dL_refusesAny_814 (by decide)  (fun c57 => False.elim (absurd c57 (by decide))) (fun c57 => ?_)
                refine pg_aload_n (pc := 817) hC dL_refusesAny_817 6 rfl rfl ?_
                refine pg_callVXi (pc := 818) (As := []) (rest := []) (v2 := (-3)) (Z3 := (va_up (va_up Z 9 (zu (Z 9) 1 0 0)) 10 (tFault (va_up Z 9 (zu (Z 9) 1 0 0)) 0).2)) hC dL_refusesAny_818 (cX4_read_c l hokw17 nx kp hnx hnx6 hkp hkp6 0 rfl (by decide)) rf_read (cwV 0 hC.2.2.2.2.1 gL_refusesAny_X4_read rfl rfl rfl (by decide +kernel) ⟨Nat.le_of_ble_eq_true rfl, Nat.le_of_ble_eq_true rfl⟩) (ok_mem hokw17 (by decide)) (ok_Xo hokw17) rfl rfl rfl rfl (Nat.le_of_ble_eq_true rfl) (Nat.zero_le _) (Nat.zero_le _) (fun f18 hokw18 => ?_)
                refine pg_bipush (pc := 821) (v := (-3)) hC dL_refusesAny_821 (by decide) ?_
                refine pg_icmp_ne (pc := 823) hC 837 dL_refusesAny_823 (by decide)  (fun c58 => False.elim (c58 rfl)) (fun c58 => ?_)
                refine pg_aload_n (pc := 826) hC dL_refusesAny_826 6 rfl rfl ?_
                refine pg_callVXi (pc := 827) (As := []) (rest := []) (v2 := 0) (Z3 := (va_up (va_up (va_up Z 9 (zu (Z 9) 1 0 0)) 10 (tFault (va_up Z 9 (zu (Z 9) 1 0 0)) 0).2) 10 (tFault (va_up (va_up Z 9 (zu (Z 9) 1 0 0)) 10 (tFault (va_up Z 9 (zu (Z 9) 1 0 0)) 0).2) 0).2)) hC dL_refusesAny_827 (cX4_fault_c l hokw18 0 rfl (by decide)) ⟨rf_flt, rfl⟩ (cwV 0 hC.2.2.2.2.1 gL_refusesAny_X4_fault rfl rfl rfl (by decide +kernel) ⟨Nat.le_of_ble_eq_true rfl, Nat.le_of_ble_eq_true rfl⟩) (ok_mem hokw18 (by decide)) (ok_Xo hokw18) rfl rfl rfl rfl (Nat.le_of_ble_eq_true rfl) (Nat.zero_le _) (Nat.zero_le _) (fun f19 hokw19 => ?_)
                refine pg_if_ne (pc := 830) hC 837 dL_refusesAny_830 (by decide)  (fun c59 => False.elim (absurd c59 (by decide))) (fun c59 => ?_)
                refine pg_iconst (pc := 833) (v := 1) hC dL_refusesAny_833 (by decide) ?_
                refine pg_goto (pc := 834) hC 838 dL_refusesAny_834 (by decide) ?_
                exact pg_zret (pc := 838) hC dL_refusesAny_838 rfl rfl ⟨rfl, _, hokw19, ⟨rfl, rf_RS _ _ _⟩⟩
              refine pg_if_eq (pc := 619) hC 667 dL_refusesAny_619 (by decide)  (fun c60 => ?_) (fun c60 => ?_)
              · skip
                exact j43 g_5 hokg5
              · skip
                have hn0 : 0 < n := hany.resolve_left c60
                have hb0 : ¬ bH (Z 0) 0 = 0 := tEx (e := 0) hn hn12 hn0
                refine pg_aload_n (pc := 622) hC dL_refusesAny_622 6 rfl rfl ?_
                refine pg_iload (pc := 623) hC dL_refusesAny_623 2 rfl ?_
                refine pg_iconst (pc := 625) (v := 0) hC dL_refusesAny_625 (by decide) ?_
                refine pg_bipush (pc := 626) (v := (-6)) hC dL_refusesAny_626 (by decide) ?_
                refine pg_iload (pc := 628) hC dL_refusesAny_628 3 rfl ?_
                refine pg_callVYi (pc := 630) (As := [.int (nI (X % 10)), .int 0, .int (-6), .int ((-(nI X)) - (-(nI X)) / 99 * 99)]) (rest := []) (v2 := (-2)) hC dL_refusesAny_630 (cX4_why_c l hokg5 n hn hn12 (nI (X % 10)) 0 (-6) ((-(nI X)) - (-(nI X)) / 99 * 99)) (rf_why (rf_e4 (tPx hso) hb0 (fun q => absurd rfl q.1) hmm) (by decide)) (cwV 4 hC.2.2.2.2.1 gL_refusesAny_X4_why rfl rfl rfl (by decide +kernel) ⟨Nat.le_of_ble_eq_true rfl, Nat.le_of_ble_eq_true rfl⟩) (ok_mem hokg5 (by decide)) (ok_Xo hokg5) rfl rfl rfl rfl (Nat.le_of_ble_eq_true rfl) (Nat.zero_le _) (Nat.zero_le _) ?_
                refine pg_bipush (pc := 633) (v := (-2)) hC dL_refusesAny_633 (by decide) ?_
                refine pg_icmp_ne (pc := 635) hC 802 dL_refusesAny_635 (by decide)  (fun c61 => False.elim (c61 rfl)) (fun c61 => ?_)
                refine pg_aload_n (pc := 638) hC dL_refusesAny_638 6 rfl rfl ?_
                refine pg_iload (pc := 639) hC dL_refusesAny_639 2 rfl ?_
                refine pg_iconst (pc := 641) (v := 0) hC dL_refusesAny_641 (by decide) ?_
                refine pg_iload (pc := 642) hC dL_refusesAny_642 2 rfl ?_
                refine pg_iconst (pc := 644) (v := 5) hC dL_refusesAny_644 (by decide) ?_
                refine pg_callVYi (pc := 645) (As := [.int (nI (X % 10)), .int 0, .int (nI (X % 10)), .int 5]) (rest := []) (v2 := (-2)) hC dL_refusesAny_645 (cX4_weight_c l hokg5 n hn hn12 (nI (X % 10)) 0 (nI (X % 10)) 5) (rf_wei (rf_e5 (tPx hso) hb0 (fun q => tPx hso q.2) rfl) (by decide)) (cwV 4 hC.2.2.2.2.1 gL_refusesAny_X4_weight rfl rfl rfl (by decide +kernel) ⟨Nat.le_of_ble_eq_true rfl, Nat.le_of_ble_eq_true rfl⟩) (ok_mem hokg5 (by decide)) (ok_Xo hokg5) rfl rfl rfl rfl (Nat.le_of_ble_eq_true rfl) (Nat.zero_le _) (Nat.zero_le _) ?_
                refine pg_bipush (pc := 648) (v := (-2)) hC dL_refusesAny_648 (by decide) ?_
                refine pg_icmp_ne (pc := 650) hC 802 dL_refusesAny_650 (by decide)  (fun c62 => False.elim (c62 rfl)) (fun c62 => ?_)
                refine pg_aload_n (pc := 653) hC dL_refusesAny_653 6 rfl rfl ?_
                refine pg_iload (pc := 654) hC dL_refusesAny_654 2 rfl ?_
                refine pg_iconst (pc := 656) (v := 0) hC dL_refusesAny_656 (by decide) ?_
                refine pg_iload (pc := 657) hC dL_refusesAny_657 3 rfl ?_
                refine pg_callVYi (pc := 659) (As := [.int (nI (X % 10)), .int 0, .int ((-(nI X)) - (-(nI X)) / 99 * 99)]) (rest := []) (v2 := (-2)) hC dL_refusesAny_659 (cX4_bestWitness_c l hokg5 n hn hn12 (nI (X % 10)) 0 ((-(nI X)) - (-(nI X)) / 99 * 99)) (rf_bw3 (tPx hso) hb0 hmm) (cwV 3 hC.2.2.2.2.1 gL_refusesAny_X4_bestWitness rfl rfl rfl (by decide +kernel) ⟨Nat.le_of_ble_eq_true rfl, Nat.le_of_ble_eq_true rfl⟩) (ok_mem hokg5 (by decide)) (ok_Xo hokg5) rfl rfl rfl rfl (Nat.le_of_ble_eq_true rfl) (Nat.zero_le _) (Nat.zero_le _) ?_
                refine pg_bipush (pc := 662) (v := (-2)) hC dL_refusesAny_662 (by decide) ?_
                refine pg_icmp_ne (pc := 664) hC 802 dL_refusesAny_664 (by decide)  (fun c63 => False.elim (c63 rfl)) (fun c63 => ?_)
                exact j43 g_5 hokg5
            refine pg_if_eq (pc := 495) hC 519 dL_refusesAny_495 (by decide)  (fun c64 => ?_) (fun c64 => ?_)
            · skip
              exact j34 g_4 hokg4
            · skip
              have hn0 : 0 < n := hany.resolve_left c64
              have hb0 : ¬ bH (Z 0) 0 = 0 := tEx (e := 0) hn hn12 hn0
              refine pg_aload_n (pc := 498) hC dL_refusesAny_498 6 rfl rfl ?_
              refine pg_iconst (pc := 499) (v := 0) hC dL_refusesAny_499 (by decide) ?_
              refine pg_iload_n (pc := 500) hC dL_refusesAny_500 7 rfl rfl ?_
              refine pg_iconst (pc := 501) (v := 2) hC dL_refusesAny_501 (by decide) ?_
              refine pg_irem (pc := 502) (v := nI (X % 2)) hC dL_refusesAny_502 (by decide) (pk_rem (a := X) (d := 2) (by omega) (by omega) (by omega)) ?_
              refine pg_if_ne (pc := 503) hC 510 dL_refusesAny_503 (by decide)  (fun c65 => False.elim (c65 ((nI_z (by omega)).mpr hx))) (fun c65 => ?_)
              refine pg_iconst (pc := 506) (v := (-1)) hC dL_refusesAny_506 (by decide) ?_
              refine pg_goto (pc := 507) hC 511 dL_refusesAny_507 (by decide) ?_
              refine pg_callVYi (pc := 511) (As := [.int 0, .int (-1)]) (rest := []) (v2 := (-2)) hC dL_refusesAny_511 (cX4_excuse_c l hokg4 n hn hn12 0 (-1)) (rf_ex2 hb0 (by decide)) (cwV 2 hC.2.2.2.2.1 gL_refusesAny_X4_excuse rfl rfl rfl (by decide +kernel) ⟨Nat.le_of_ble_eq_true rfl, Nat.le_of_ble_eq_true rfl⟩) (ok_mem hokg4 (by decide)) (ok_Xo hokg4) rfl rfl rfl rfl (Nat.le_of_ble_eq_true rfl) (Nat.zero_le _) (Nat.zero_le _) ?_
              refine pg_bipush (pc := 514) (v := (-2)) hC dL_refusesAny_514 (by decide) ?_
              refine pg_icmp_ne (pc := 516) hC 802 dL_refusesAny_516 (by decide)  (fun c66 => False.elim (c66 rfl)) (fun c66 => ?_)
              exact j34 g_4 hokg4
          refine pg_icmp_gt (pc := 447) hC 470 dL_refusesAny_447 (by decide)  (fun c67 => ?_) (fun c67 => ?_)
          · skip
            exact j31 f14 hokw14
          · skip
            refine pg_aload_n (pc := 450) hC dL_refusesAny_450 5 rfl rfl ?_
            refine pg_iload (pc := 451) hC dL_refusesAny_451 1 rfl ?_
            refine pg_aload_n (pc := 453) hC dL_refusesAny_453 5 rfl rfl ?_
            refine pg_iload (pc := 454) hC dL_refusesAny_454 1 rfl ?_
            refine pg_iconst (pc := 456) (v := 1) hC dL_refusesAny_456 (by decide) ?_
            refine pg_callVYi (pc := 457) (As := [.int (nI (X % 10)), .int 1]) (rest := [.int (nI (X % 10)), .ref (x 12 2)]) (v2 := Z 0 7 (X % 10)) hC dL_refusesAny_457 (cX4_pupil_c l hokw14 (nI (X % 10)) 1) (tP1 (by omega)) (cwV 2 hC.2.2.2.2.1 gL_refusesAny_X4_pupil rfl rfl rfl (by decide +kernel) ⟨Nat.le_of_ble_eq_true rfl, Nat.le_of_ble_eq_true rfl⟩) (ok_mem hokw14 (by decide)) (ok_Xo hokw14) rfl rfl rfl rfl (Nat.le_of_ble_eq_true rfl) (Nat.zero_le _) (Nat.zero_le _) ?_
            refine pg_iconst (pc := 460) (v := 1) hC dL_refusesAny_460 (by decide) ?_
            refine pg_iadd (pc := 461) (v := (Z 0 7 (X % 10)) + 1) hC dL_refusesAny_461 rfl ?_
            refine pg_callVXi (pc := 462) (As := [.int (nI (X % 10)), .int ((Z 0 7 (X % 10)) + 1)]) (rest := []) (v2 := (-5)) (Z3 := Z) hC dL_refusesAny_462 (cX4_pay_c l hokw14 nx kp hnx hnx6 hkp hkp6 (nI (X % 10)) ((Z 0 7 (X % 10)) + 1)) (rf_pay3 h hK hso c67) (cwV 2 hC.2.2.2.2.1 gL_refusesAny_X4_pay rfl rfl rfl (by decide +kernel) ⟨Nat.le_of_ble_eq_true rfl, Nat.le_of_ble_eq_true rfl⟩) (ok_mem hokw14 (by decide)) (ok_Xo hokw14) rfl rfl rfl rfl (Nat.le_of_ble_eq_true rfl) (Nat.zero_le _) (Nat.zero_le _) (fun f20 hokw20 => ?_)
            refine pg_bipush (pc := 465) (v := (-5)) hC dL_refusesAny_465 (by decide) ?_
            refine pg_icmp_ne (pc := 467) hC 474 dL_refusesAny_467 (by decide)  (fun c68 => False.elim (c68 rfl)) (fun c68 => ?_)
            exact j31 f20 hokw20
        refine pg_if_eq (pc := 369) hC 403 dL_refusesAny_369 (by decide)  (fun c69 => ?_) (fun c69 => ?_)
        · skip
          exact j27 f12 hokw12
        · skip
          have hn0 : 0 < n := hany.resolve_left c69
          have hb0 : ¬ bH (Z 0) 0 = 0 := tEx (e := 0) hn hn12 hn0
          refine pg_aload_n (pc := 372) hC dL_refusesAny_372 5 rfl rfl ?_
          refine pg_iload (pc := 373) hC dL_refusesAny_373 1 rfl ?_
          refine pg_iconst (pc := 375) (v := 0) hC dL_refusesAny_375 (by decide) ?_
          refine pg_bipush (pc := 376) (v := (-6)) hC dL_refusesAny_376 (by decide) ?_
          refine pg_iload (pc := 378) hC dL_refusesAny_378 2 rfl ?_
          refine pg_callVXi (pc := 380) (As := [.int (nI (X % 10)), .int 0, .int (-6), .int ((-(nI X)) - (-(nI X)) / 99 * 99)]) (rest := []) (v2 := (-2)) (Z3 := Z) hC dL_refusesAny_380 (cX4_offer_c l hokw12 n hn hn12 nx kp hnx hnx6 hkp hkp6 (nI (X % 10)) 0 (-6) ((-(nI X)) - (-(nI X)) / 99 * 99)) (rf_off (rf_e4 (tPx hso) hb0 (fun q => absurd rfl q.1) hmm) (by decide)) (cwV 4 hC.2.2.2.2.1 gL_refusesAny_X4_offer rfl rfl rfl (by decide +kernel) ⟨Nat.le_of_ble_eq_true rfl, Nat.le_of_ble_eq_true rfl⟩) (ok_mem hokw12 (by decide)) (ok_Xo hokw12) rfl rfl rfl rfl (Nat.le_of_ble_eq_true rfl) (Nat.zero_le _) (Nat.zero_le _) (fun f21 hokw21 => ?_)
          refine pg_bipush (pc := 383) (v := (-2)) hC dL_refusesAny_383 (by decide) ?_
          refine pg_icmp_ne (pc := 385) hC 474 dL_refusesAny_385 (by decide)  (fun c70 => False.elim (c70 rfl)) (fun c70 => ?_)
          refine pg_aload_n (pc := 388) hC dL_refusesAny_388 5 rfl rfl ?_
          refine pg_iload (pc := 389) hC dL_refusesAny_389 1 rfl ?_
          refine pg_iconst (pc := 391) (v := 0) hC dL_refusesAny_391 (by decide) ?_
          refine pg_iload (pc := 392) hC dL_refusesAny_392 1 rfl ?_
          refine pg_iconst (pc := 394) (v := 5) hC dL_refusesAny_394 (by decide) ?_
          refine pg_callVXi (pc := 395) (As := [.int (nI (X % 10)), .int 0, .int (nI (X % 10)), .int 5]) (rest := []) (v2 := (-2)) (Z3 := Z) hC dL_refusesAny_395 (cX4_offer_c l hokw21 n hn hn12 nx kp hnx hnx6 hkp hkp6 (nI (X % 10)) 0 (nI (X % 10)) 5) (rf_off (rf_e5 (tPx hso) hb0 (fun q => tPx hso q.2) rfl) (by decide)) (cwV 4 hC.2.2.2.2.1 gL_refusesAny_X4_offer rfl rfl rfl (by decide +kernel) ⟨Nat.le_of_ble_eq_true rfl, Nat.le_of_ble_eq_true rfl⟩) (ok_mem hokw21 (by decide)) (ok_Xo hokw21) rfl rfl rfl rfl (Nat.le_of_ble_eq_true rfl) (Nat.zero_le _) (Nat.zero_le _) (fun f22 hokw22 => ?_)
          refine pg_bipush (pc := 398) (v := (-2)) hC dL_refusesAny_398 (by decide) ?_
          refine pg_icmp_ne (pc := 400) hC 474 dL_refusesAny_400 (by decide)  (fun c71 => False.elim (c71 rfl)) (fun c71 => ?_)
          exact j27 f22 hokw22
      refine pg_if_eq (pc := 299) hC 324 dL_refusesAny_299 (by decide)  (fun c72 => ?_) (fun c72 => ?_)
      · skip
        exact j23 f9 hokw9
      · skip
        have hn0 : 0 < n := hany.resolve_left c72
        have hb0 : ¬ bH (Z 0) 0 = 0 := tEx (e := 0) hn hn12 hn0
        refine pg_aload_n (pc := 302) hC dL_refusesAny_302 5 rfl rfl ?_
        refine pg_iconst (pc := 303) (v := 0) hC dL_refusesAny_303 (by decide) ?_
        refine pg_iload_n (pc := 304) hC dL_refusesAny_304 6 rfl rfl ?_
        refine pg_iconst (pc := 305) (v := 2) hC dL_refusesAny_305 (by decide) ?_
        refine pg_irem (pc := 306) (v := nI (X % 2)) hC dL_refusesAny_306 (by decide) (pk_rem (a := X) (d := 2) (by omega) (by omega) (by omega)) ?_
        refine pg_if_ne (pc := 307) hC 314 dL_refusesAny_307 (by decide)  (fun c73 => False.elim (c73 ((nI_z (by omega)).mpr hx))) (fun c73 => ?_)
        refine pg_iconst (pc := 310) (v := 0) hC dL_refusesAny_310 (by decide) ?_
        refine pg_goto (pc := 311) hC 316 dL_refusesAny_311 (by decide) ?_
        refine pg_callVXi (pc := 316) (As := [.int 0, .int 0]) (rest := []) (v2 := (-2)) (Z3 := Z) hC dL_refusesAny_316 (cX4_worth_c l hokw9 n hn hn12 nx kp hnx hnx6 hkp hkp6 0 0) (rf_worth2 hb0 (by decide +kernel)) (cwV 2 hC.2.2.2.2.1 gL_refusesAny_X4_worth rfl rfl rfl (by decide +kernel) ⟨Nat.le_of_ble_eq_true rfl, Nat.le_of_ble_eq_true rfl⟩) (ok_mem hokw9 (by decide)) (ok_Xo hokw9) rfl rfl rfl rfl (Nat.le_of_ble_eq_true rfl) (Nat.zero_le _) (Nat.zero_le _) (fun f23 hokw23 => ?_)
        refine pg_bipush (pc := 319) (v := (-2)) hC dL_refusesAny_319 (by decide) ?_
        refine pg_icmp_ne (pc := 321) hC 474 dL_refusesAny_321 (by decide)  (fun c74 => False.elim (c74 rfl)) (fun c74 => ?_)
        exact j23 f23 hokw23
    refine pg_icmp_ltN (pc := 273) hC 287 dL_refusesAny_273 (by decide) (n) (12) rfl rfl (by omega) (by omega) (fun c75 => ?_) (fun c75 => ?_)
    · skip
      exact j21 f8 hokw8
    · skip
      refine pg_aload_n (pc := 276) hC dL_refusesAny_276 5 rfl rfl ?_
      refine pg_iconst (pc := 277) (v := 0) hC dL_refusesAny_277 (by decide) ?_
      refine pg_iconst (pc := 278) (v := 5) hC dL_refusesAny_278 (by decide) ?_
      refine pg_callVXi (pc := 279) (As := [.int 0, .int 5]) (rest := []) (v2 := (-4)) (Z3 := Z) hC dL_refusesAny_279 (cX4_add_c l hokw8 n hn hn12 nx kp hnx hnx6 hkp hkp6 0 5) (rf_add2 (by omega)) (cwV 2 hC.2.2.2.2.1 gL_refusesAny_X4_add rfl rfl rfl (by decide +kernel) ⟨Nat.le_of_ble_eq_true rfl, Nat.le_of_ble_eq_true rfl⟩) (ok_mem hokw8 (by decide)) (ok_Xo hokw8) rfl rfl rfl rfl (Nat.le_of_ble_eq_true rfl) (Nat.zero_le _) (Nat.zero_le _) (fun f24 hokw24 => ?_)
      refine pg_bipush (pc := 282) (v := (-4)) hC dL_refusesAny_282 (by decide) ?_
      refine pg_icmp_ne (pc := 284) hC 474 dL_refusesAny_284 (by decide)  (fun c76 => False.elim (c76 rfl)) (fun c76 => ?_)
      exact j21 f24 hokw24
  refine pg_if_le (pc := 82) hC 89 dL_refusesAny_82 (by decide)  (fun c77 => ?_) (fun c77 => ?_)
  · skip
    refine pg_iconst (pc := 89) (v := 0) hC dL_refusesAny_89 (by decide) ?_
    refine pg_istore (pc := 90) (vs' := [(6, .int 0), (5, .int (nI (X % 10))), (4, .int ((-(nI X)) - (-(nI X)) / 99 * 99)), (3, .int ((-1) - (nI (X % 99)))), (2, .int ((-1) - (nI (X % 5)))), (0, .ref (x 12 2)), (1, .int (nI X))]) hC dL_refusesAny_90 (by decide) rfl ?_
    exact j4 0 (Or.inl rfl)
  · skip
    refine pg_iconst (pc := 85) (v := 1) hC dL_refusesAny_85 (by decide) ?_
    refine pg_goto (pc := 86) hC 90 dL_refusesAny_86 (by decide) ?_
    refine pg_istore (pc := 90) (vs' := [(6, .int 1), (5, .int (nI (X % 10))), (4, .int ((-(nI X)) - (-(nI X)) / 99 * 99)), (3, .int ((-1) - (nI (X % 99)))), (2, .int ((-1) - (nI (X % 5)))), (0, .ref (x 12 2)), (1, .int (nI X))]) hC dL_refusesAny_90 (by decide) rfl ?_
    exact j4 1 (Or.inr (Nat.pos_of_ne_zero (fun q => c77 (by subst q; exact Int32.le_refl _))))
set_option maxHeartbeats 32000000 in
set_option maxRecDepth 20000 in
theorem cL_refusesAny_1 (l : Launch) {κ : pv_Kt} {L : List Nat} {f : Nat → va_E} {x : Nat → Nat → Nat} {Z : Nat → Nat → Nat → Int32} (hok : pv_ok κ x L f Z) (n K : Nat) (h : IV (Z 0) n K) (hK : K ≤ 100) (nx kp : Nat) (hnx : Z 12 1 0 = nI nx) (hnx6 : nx < 6) (hkp : Z 12 2 0 = nI kp) (hkp6 : kp ≤ 6) (hpl : Z 9 1 0 = 0) (X : Nat) (hX : X < 2 ^ 31) (hx : X % 2 = 1)  : pv_Mi l κ yL_refusesAny wsL_refusesAny rmL_refusesAny L f [.ref (x 12 2), .int (nI X)] 0 0 (pv_Ei κ x L (fun r Z1 => r = 1 ∧ RS Z Z1)) := by
  refine pv_startI (cc := cL_refusesAny) (maxL := 8) (ret := (some .boolean)) (by decide) rfl (Nat.le_of_ble_eq_true rfl) (fun A0 P0 E0 S0 M0 a0 B0 T0 C0 hC => ?_)
  refine pg_sub (vs' := [(0, .ref (x 12 2)), (1, .int (nI X))]) [0, 1] rfl ?_
  have hn := h.nn
  have hn12 := h.n12
  refine pg_iload_n (pc := 0) hC dL_refusesAny_0 1 rfl rfl ?_
  refine pg_iconst (pc := 1) (v := 2) hC dL_refusesAny_1 (by decide) ?_
  refine pg_irem (pc := 2) (v := nI (X % 2)) hC dL_refusesAny_2 (by decide) (pk_rem (a := X) (d := 2) (by omega) (by omega) (by omega)) ?_
  refine pg_if_ne (pc := 3) hC 14 dL_refusesAny_3 (by decide)  (fun c1 => ?_) (fun c1 => False.elim (absurd ((nI_z (by omega)).mp c1) (by omega)))
  refine pg_bipush (pc := 14) (v := 10) hC dL_refusesAny_14 (by decide) ?_
  refine pg_iload_n (pc := 16) hC dL_refusesAny_16 1 rfl rfl ?_
  refine pg_bipush (pc := 17) (v := 99) hC dL_refusesAny_17 (by decide) ?_
  refine pg_irem (pc := 19) (v := nI (X % 99)) hC dL_refusesAny_19 (by decide) (pk_rem (a := X) (d := 99) (by omega) (by omega) (by omega)) ?_
  refine pg_iadd (pc := 20) (v := nI (10 + (X % 99))) hC dL_refusesAny_20 (nI_add (10) (X % 99)) ?_
  refine pg_istore_n (pc := 21) (vs' := [(2, .int (nI (10 + (X % 99)))), (0, .ref (x 12 2)), (1, .int (nI X))]) hC dL_refusesAny_21 rfl (by decide) rfl ?_
  refine pg_iload_n (pc := 22) hC dL_refusesAny_22 2 rfl rfl ?_
  refine pg_iconst (pc := 23) (v := 2) hC dL_refusesAny_23 (by decide) ?_
  refine pg_irem (pc := 24) (v := nI (X % 2)) hC dL_refusesAny_24 (by decide) (pk_rem (a := X) (d := 2) (by omega) (by omega) (by omega)) ?_
  refine pg_if_ne (pc := 25) hC 37 dL_refusesAny_25 (by decide)  (fun c2 => ?_) (fun c2 => False.elim (absurd ((nI_z (by omega)).mp c2) (by omega)))
  refine pg_aload_n (pc := 37) hC dL_refusesAny_37 1 rfl rfl ?_
  refine pg_iconst (pc := 38) (v := 5) hC dL_refusesAny_38 (by decide) ?_
  refine pg_callVYi (pc := 39) (As := [.int 5]) (rest := []) (v2 := nI n) hC dL_refusesAny_39 (cX4_count_c l hok n hn hn12 5 _ rfl) ((tC _ _).2.2.2.2.2.1.trans hn) (cwV 1 hC.2.2.2.2.1 gL_refusesAny_X4_count rfl rfl rfl (by decide +kernel) ⟨Nat.le_of_ble_eq_true rfl, Nat.le_of_ble_eq_true rfl⟩) (ok_mem hok (by decide)) (ok_Xo hok) rfl rfl rfl rfl (Nat.le_of_ble_eq_true rfl) (Nat.zero_le _) (Nat.zero_le _) ?_
  refine pg_iload_n (pc := 42) hC dL_refusesAny_42 2 rfl rfl ?_
  refine pg_bipush (pc := 43) (v := 99) hC dL_refusesAny_43 (by decide) ?_
  refine pg_irem (pc := 45) (v := nI (X % 99)) hC dL_refusesAny_45 (by decide) (pk_rem (a := X) (d := 99) (by omega) (by omega) (by omega)) ?_
  refine pg_iadd (pc := 46) (v := nI (n + (X % 99))) hC dL_refusesAny_46 (nI_add (n) (X % 99)) ?_
  refine pg_istore_n (pc := 47) (vs' := [(3, .int (nI (n + (X % 99)))), (2, .int (nI (10 + (X % 99)))), (0, .ref (x 12 2)), (1, .int (nI X))]) hC dL_refusesAny_47 rfl (by decide) rfl ?_
  refine pg_iload_n (pc := 48) hC dL_refusesAny_48 3 rfl rfl ?_
  refine pg_iconst (pc := 49) (v := 2) hC dL_refusesAny_49 (by decide) ?_
  refine pg_irem (pc := 50) (v := nI (X % 2)) hC dL_refusesAny_50 (by decide) (pk_rem (a := X) (d := 2) (by omega) (by omega) (by omega)) ?_
  refine pg_if_ne (pc := 51) hC 62 dL_refusesAny_51 (by decide)  (fun c3 => ?_) (fun c3 => False.elim (absurd ((nI_z (by omega)).mp c3) (by omega)))
  refine pg_bipush (pc := 62) (v := 100) hC dL_refusesAny_62 (by decide) ?_
  refine pg_iload_n (pc := 64) hC dL_refusesAny_64 3 rfl rfl ?_
  refine pg_bipush (pc := 65) (v := 99) hC dL_refusesAny_65 (by decide) ?_
  refine pg_irem (pc := 67) (v := nI (X % 99)) hC dL_refusesAny_67 (by decide) (pk_rem (a := X) (d := 99) (by omega) (by omega) (by omega)) ?_
  refine pg_iadd (pc := 68) (v := nI (100 + (X % 99))) hC dL_refusesAny_68 (nI_add (100) (X % 99)) ?_
  refine pg_istore (pc := 69) (vs' := [(4, .int (nI (100 + (X % 99)))), (3, .int (nI (n + (X % 99)))), (2, .int (nI (10 + (X % 99)))), (0, .ref (x 12 2)), (1, .int (nI X))]) hC dL_refusesAny_69 (by decide) rfl ?_
  refine pg_iload_n (pc := 71) hC dL_refusesAny_71 4 rfl rfl ?_
  refine pg_bipush (pc := 72) (v := 10) hC dL_refusesAny_72 (by decide) ?_
  refine pg_irem (pc := 74) (v := nI (X % 10)) hC dL_refusesAny_74 (by decide) (pk_rem (a := X) (d := 10) (by omega) (by omega) (by omega)) ?_
  refine pg_istore (pc := 75) (vs' := [(5, .int (nI (X % 10))), (4, .int (nI (100 + (X % 99)))), (3, .int (nI (n + (X % 99)))), (2, .int (nI (10 + (X % 99)))), (0, .ref (x 12 2)), (1, .int (nI X))]) hC dL_refusesAny_75 (by decide) rfl ?_
  have hpp : bW (nI (10 + (X % 99))) 0 9 = 0 := rf_big (a := 10 + X % 99) (b := 9) (by omega) (by omega) _
  have hpp6 : ¬ (nI (10 + (X % 99))) = -6 := rf_big6 (by omega)
  have hee : bH (Z 0) (nI (n + (X % 99))) = 0 := rf_bigH hn (by omega) (by omega)
  have hmm : bW (nI (100 + (X % 99))) 1 99 = 0 := rf_big (a := 100 + X % 99) (b := 99) (by omega) (by omega) _
  have hso : X % 10 < 10 := by omega
  refine pg_aload_n (pc := 77) hC dL_refusesAny_77 4 rfl rfl ?_
  refine pg_iconst (pc := 78) (v := 5) hC dL_refusesAny_78 (by decide) ?_
  refine pg_callVYi (pc := 79) (As := [.int 5]) (rest := []) (v2 := nI n) hC dL_refusesAny_79 (cX4_count_c l hok n hn hn12 5 _ rfl) ((tC _ _).2.2.2.2.2.1.trans hn) (cwV 1 hC.2.2.2.2.1 gL_refusesAny_X4_count rfl rfl rfl (by decide +kernel) ⟨Nat.le_of_ble_eq_true rfl, Nat.le_of_ble_eq_true rfl⟩) (ok_mem hok (by decide)) (ok_Xo hok) rfl rfl rfl rfl (Nat.le_of_ble_eq_true rfl) (Nat.zero_le _) (Nat.zero_le _) ?_
  refine pg_join (pc := 82) (σ := Int32) (fun q => match q with | an_y => an_y = 0 ∨ 0 < n) 92 (fun q => match q with | an_y => [(6, .int an_y), (5, .int (nI (X % 10))), (4, .int (nI (100 + (X % 99)))), (3, .int (nI (n + (X % 99)))), (2, .int (nI (10 + (X % 99)))), (0, .ref (x 12 2)), (1, .int (nI X))]) (fun q => match q with | an_y => []) (fun q => match q with | an_y => f) ?_ (fun j4 => ?_)
  · skip
    intro q hI
    obtain ⟨an_y, rfl⟩ : ∃ z, z = q := ⟨_, rfl⟩
    try dsimp only
    have hany : an_y = 0 ∨ 0 < n := hI
    refine pg_aload_n (pc := 92) hC dL_refusesAny_92 5 rfl rfl ?_
    refine pg_iload_n (pc := 93) hC dL_refusesAny_93 6 rfl rfl ?_
    refine pg_iconst (pc := 94) (v := 2) hC dL_refusesAny_94 (by decide) ?_
    refine pg_irem (pc := 95) (v := nI (X % 2)) hC dL_refusesAny_95 (by decide) (pk_rem (a := X) (d := 2) (by omega) (by omega) (by omega)) ?_
    refine pg_if_ne (pc := 96) hC 103 dL_refusesAny_96 (by decide)  (fun c5 => ?_) (fun c5 => False.elim (absurd ((nI_z (by omega)).mp c5) (by omega)))
    refine pg_iconst (pc := 103) (v := 5) hC dL_refusesAny_103 (by decide) ?_
    refine pg_iconst (pc := 104) (v := 5) hC dL_refusesAny_104 (by decide) ?_
    refine pg_callVXi (pc := 105) (As := [.int 5, .int 5]) (rest := []) (v2 := (-2)) (Z3 := Z) hC dL_refusesAny_105 (cX4_set_c l hok nx kp hnx hnx6 hkp hkp6 5 5) (rf_set (Or.inl (by decide +kernel))) (cwV 2 hC.2.2.2.2.1 gL_refusesAny_X4_set rfl rfl rfl (by decide +kernel) ⟨Nat.le_of_ble_eq_true rfl, Nat.le_of_ble_eq_true rfl⟩) (ok_mem hok (by decide)) (ok_Xo hok) rfl rfl rfl rfl (Nat.le_of_ble_eq_true rfl) (Nat.zero_le _) (Nat.zero_le _) (fun f1 hokw1 => ?_)
    refine pg_bipush (pc := 108) (v := (-2)) hC dL_refusesAny_108 (by decide) ?_
    refine pg_icmp_ne (pc := 110) hC 474 dL_refusesAny_110 (by decide)  (fun c6 => False.elim (c6 rfl)) (fun c6 => ?_)
    refine pg_aload_n (pc := 113) hC dL_refusesAny_113 5 rfl rfl ?_
    refine pg_iconst (pc := 114) (v := 0) hC dL_refusesAny_114 (by decide) ?_
    refine pg_iload_n (pc := 115) hC dL_refusesAny_115 6 rfl rfl ?_
    refine pg_iconst (pc := 116) (v := 2) hC dL_refusesAny_116 (by decide) ?_
    refine pg_irem (pc := 117) (v := nI (X % 2)) hC dL_refusesAny_117 (by decide) (pk_rem (a := X) (d := 2) (by omega) (by omega) (by omega)) ?_
    refine pg_if_ne (pc := 118) hC 125 dL_refusesAny_118 (by decide)  (fun c7 => ?_) (fun c7 => False.elim (absurd ((nI_z (by omega)).mp c7) (by omega)))
    refine pg_bipush (pc := 125) (v := 100) hC dL_refusesAny_125 (by decide) ?_
    refine pg_callVXi (pc := 127) (As := [.int 0, .int 100]) (rest := []) (v2 := (-2)) (Z3 := Z) hC dL_refusesAny_127 (cX4_set_c l hokw1 nx kp hnx hnx6 hkp hkp6 0 100) (rf_set (Or.inr (by decide +kernel))) (cwV 2 hC.2.2.2.2.1 gL_refusesAny_X4_set rfl rfl rfl (by decide +kernel) ⟨Nat.le_of_ble_eq_true rfl, Nat.le_of_ble_eq_true rfl⟩) (ok_mem hokw1 (by decide)) (ok_Xo hokw1) rfl rfl rfl rfl (Nat.le_of_ble_eq_true rfl) (Nat.zero_le _) (Nat.zero_le _) (fun f2 hokw2 => ?_)
    refine pg_bipush (pc := 130) (v := (-2)) hC dL_refusesAny_130 (by decide) ?_
    refine pg_icmp_ne (pc := 132) hC 474 dL_refusesAny_132 (by decide)  (fun c8 => False.elim (c8 rfl)) (fun c8 => ?_)
    refine pg_aload_n (pc := 135) hC dL_refusesAny_135 5 rfl rfl ?_
    refine pg_iconst (pc := 136) (v := 1) hC dL_refusesAny_136 (by decide) ?_
    refine pg_iload_n (pc := 137) hC dL_refusesAny_137 6 rfl rfl ?_
    refine pg_iconst (pc := 138) (v := 2) hC dL_refusesAny_138 (by decide) ?_
    refine pg_irem (pc := 139) (v := nI (X % 2)) hC dL_refusesAny_139 (by decide) (pk_rem (a := X) (d := 2) (by omega) (by omega) (by omega)) ?_
    refine pg_if_ne (pc := 140) hC 147 dL_refusesAny_140 (by decide)  (fun c9 => ?_) (fun c9 => False.elim (absurd ((nI_z (by omega)).mp c9) (by omega)))
    refine pg_bipush (pc := 147) (v := 51) hC dL_refusesAny_147 (by decide) ?_
    refine pg_callVXi (pc := 149) (As := [.int 1, .int 51]) (rest := []) (v2 := (-2)) (Z3 := Z) hC dL_refusesAny_149 (cX4_set_c l hokw2 nx kp hnx hnx6 hkp hkp6 1 51) (rf_set (Or.inr (by decide +kernel))) (cwV 2 hC.2.2.2.2.1 gL_refusesAny_X4_set rfl rfl rfl (by decide +kernel) ⟨Nat.le_of_ble_eq_true rfl, Nat.le_of_ble_eq_true rfl⟩) (ok_mem hokw2 (by decide)) (ok_Xo hokw2) rfl rfl rfl rfl (Nat.le_of_ble_eq_true rfl) (Nat.zero_le _) (Nat.zero_le _) (fun f3 hokw3 => ?_)
    refine pg_bipush (pc := 152) (v := (-2)) hC dL_refusesAny_152 (by decide) ?_
    refine pg_icmp_ne (pc := 154) hC 474 dL_refusesAny_154 (by decide)  (fun c10 => False.elim (c10 rfl)) (fun c10 => ?_)
    refine pg_aload_n (pc := 157) hC dL_refusesAny_157 5 rfl rfl ?_
    refine pg_iconst (pc := 158) (v := 2) hC dL_refusesAny_158 (by decide) ?_
    refine pg_iload_n (pc := 159) hC dL_refusesAny_159 6 rfl rfl ?_
    refine pg_iconst (pc := 160) (v := 2) hC dL_refusesAny_160 (by decide) ?_
    refine pg_irem (pc := 161) (v := nI (X % 2)) hC dL_refusesAny_161 (by decide) (pk_rem (a := X) (d := 2) (by omega) (by omega) (by omega)) ?_
    refine pg_if_ne (pc := 162) hC 169 dL_refusesAny_162 (by decide)  (fun c11 => ?_) (fun c11 => False.elim (absurd ((nI_z (by omega)).mp c11) (by omega)))
    refine pg_bipush (pc := 169) (v := 10) hC dL_refusesAny_169 (by decide) ?_
    refine pg_callVXi (pc := 171) (As := [.int 2, .int 10]) (rest := []) (v2 := (-2)) (Z3 := Z) hC dL_refusesAny_171 (cX4_set_c l hokw3 nx kp hnx hnx6 hkp hkp6 2 10) (rf_set (Or.inr (by decide +kernel))) (cwV 2 hC.2.2.2.2.1 gL_refusesAny_X4_set rfl rfl rfl (by decide +kernel) ⟨Nat.le_of_ble_eq_true rfl, Nat.le_of_ble_eq_true rfl⟩) (ok_mem hokw3 (by decide)) (ok_Xo hokw3) rfl rfl rfl rfl (Nat.le_of_ble_eq_true rfl) (Nat.zero_le _) (Nat.zero_le _) (fun f4 hokw4 => ?_)
    refine pg_bipush (pc := 174) (v := (-2)) hC dL_refusesAny_174 (by decide) ?_
    refine pg_icmp_ne (pc := 176) hC 474 dL_refusesAny_176 (by decide)  (fun c12 => False.elim (c12 rfl)) (fun c12 => ?_)
    refine pg_aload_n (pc := 179) hC dL_refusesAny_179 5 rfl rfl ?_
    refine pg_iconst (pc := 180) (v := 3) hC dL_refusesAny_180 (by decide) ?_
    refine pg_iload_n (pc := 181) hC dL_refusesAny_181 6 rfl rfl ?_
    refine pg_iconst (pc := 182) (v := 2) hC dL_refusesAny_182 (by decide) ?_
    refine pg_irem (pc := 183) (v := nI (X % 2)) hC dL_refusesAny_183 (by decide) (pk_rem (a := X) (d := 2) (by omega) (by omega) (by omega)) ?_
    refine pg_if_ne (pc := 184) hC 191 dL_refusesAny_184 (by decide)  (fun c13 => ?_) (fun c13 => False.elim (absurd ((nI_z (by omega)).mp c13) (by omega)))
    refine pg_bipush (pc := 191) (v := 61) hC dL_refusesAny_191 (by decide) ?_
    refine pg_callVXi (pc := 193) (As := [.int 3, .int 61]) (rest := []) (v2 := (-2)) (Z3 := Z) hC dL_refusesAny_193 (cX4_set_c l hokw4 nx kp hnx hnx6 hkp hkp6 3 61) (rf_set (Or.inr (by decide +kernel))) (cwV 2 hC.2.2.2.2.1 gL_refusesAny_X4_set rfl rfl rfl (by decide +kernel) ⟨Nat.le_of_ble_eq_true rfl, Nat.le_of_ble_eq_true rfl⟩) (ok_mem hokw4 (by decide)) (ok_Xo hokw4) rfl rfl rfl rfl (Nat.le_of_ble_eq_true rfl) (Nat.zero_le _) (Nat.zero_le _) (fun f5 hokw5 => ?_)
    refine pg_bipush (pc := 196) (v := (-2)) hC dL_refusesAny_196 (by decide) ?_
    refine pg_icmp_ne (pc := 198) hC 474 dL_refusesAny_198 (by decide)  (fun c14 => False.elim (c14 rfl)) (fun c14 => ?_)
    refine pg_aload_n (pc := 201) hC dL_refusesAny_201 5 rfl rfl ?_
    refine pg_iconst (pc := 202) (v := 4) hC dL_refusesAny_202 (by decide) ?_
    refine pg_iload_n (pc := 203) hC dL_refusesAny_203 6 rfl rfl ?_
    refine pg_iconst (pc := 204) (v := 2) hC dL_refusesAny_204 (by decide) ?_
    refine pg_irem (pc := 205) (v := nI (X % 2)) hC dL_refusesAny_205 (by decide) (pk_rem (a := X) (d := 2) (by omega) (by omega) (by omega)) ?_
    refine pg_if_ne (pc := 206) hC 213 dL_refusesAny_206 (by decide)  (fun c15 => ?_) (fun c15 => False.elim (absurd ((nI_z (by omega)).mp c15) (by omega)))
    refine pg_bipush (pc := 213) (v := 21) hC dL_refusesAny_213 (by decide) ?_
    refine pg_callVXi (pc := 215) (As := [.int 4, .int 21]) (rest := []) (v2 := (-2)) (Z3 := Z) hC dL_refusesAny_215 (cX4_set_c l hokw5 nx kp hnx hnx6 hkp hkp6 4 21) (rf_set (Or.inr (by decide +kernel))) (cwV 2 hC.2.2.2.2.1 gL_refusesAny_X4_set rfl rfl rfl (by decide +kernel) ⟨Nat.le_of_ble_eq_true rfl, Nat.le_of_ble_eq_true rfl⟩) (ok_mem hokw5 (by decide)) (ok_Xo hokw5) rfl rfl rfl rfl (Nat.le_of_ble_eq_true rfl) (Nat.zero_le _) (Nat.zero_le _) (fun f6 hokw6 => ?_)
    refine pg_bipush (pc := 218) (v := (-2)) hC dL_refusesAny_218 (by decide) ?_
    refine pg_icmp_ne (pc := 220) hC 474 dL_refusesAny_220 (by decide)  (fun c16 => False.elim (c16 rfl)) (fun c16 => ?_)
    refine pg_aload_n (pc := 223) hC dL_refusesAny_223 5 rfl rfl ?_
    refine pg_iload_n (pc := 224) hC dL_refusesAny_224 6 rfl rfl ?_
    refine pg_iconst (pc := 225) (v := 2) hC dL_refusesAny_225 (by decide) ?_
    refine pg_irem (pc := 226) (v := nI (X % 2)) hC dL_refusesAny_226 (by decide) (pk_rem (a := X) (d := 2) (by omega) (by omega) (by omega)) ?_
    refine pg_if_ne (pc := 227) hC 234 dL_refusesAny_227 (by decide)  (fun c17 => ?_) (fun c17 => False.elim (absurd ((nI_z (by omega)).mp c17) (by omega)))
    refine pg_iconst (pc := 234) (v := 5) hC dL_refusesAny_234 (by decide) ?_
    refine pg_iconst (pc := 235) (v := 5) hC dL_refusesAny_235 (by decide) ?_
    refine pg_callVXi (pc := 236) (As := [.int 5, .int 5]) (rest := []) (v2 := (-2)) (Z3 := Z) hC dL_refusesAny_236 (cX4_add_c l hokw6 n hn hn12 nx kp hnx hnx6 hkp hkp6 5 5) (rf_add1 (Or.inl (by decide +kernel))) (cwV 2 hC.2.2.2.2.1 gL_refusesAny_X4_add rfl rfl rfl (by decide +kernel) ⟨Nat.le_of_ble_eq_true rfl, Nat.le_of_ble_eq_true rfl⟩) (ok_mem hokw6 (by decide)) (ok_Xo hokw6) rfl rfl rfl rfl (Nat.le_of_ble_eq_true rfl) (Nat.zero_le _) (Nat.zero_le _) (fun f7 hokw7 => ?_)
    refine pg_bipush (pc := 239) (v := (-2)) hC dL_refusesAny_239 (by decide) ?_
    refine pg_icmp_ne (pc := 241) hC 474 dL_refusesAny_241 (by decide)  (fun c18 => False.elim (c18 rfl)) (fun c18 => ?_)
    refine pg_aload_n (pc := 244) hC dL_refusesAny_244 5 rfl rfl ?_
    refine pg_iconst (pc := 245) (v := 0) hC dL_refusesAny_245 (by decide) ?_
    refine pg_iload_n (pc := 246) hC dL_refusesAny_246 6 rfl rfl ?_
    refine pg_iconst (pc := 247) (v := 2) hC dL_refusesAny_247 (by decide) ?_
    refine pg_irem (pc := 248) (v := nI (X % 2)) hC dL_refusesAny_248 (by decide) (pk_rem (a := X) (d := 2) (by omega) (by omega) (by omega)) ?_
    refine pg_if_ne (pc := 249) hC 256 dL_refusesAny_249 (by decide)  (fun c19 => ?_) (fun c19 => False.elim (absurd ((nI_z (by omega)).mp c19) (by omega)))
    refine pg_bipush (pc := 256) (v := 100) hC dL_refusesAny_256 (by decide) ?_
    refine pg_callVXi (pc := 258) (As := [.int 0, .int 100]) (rest := []) (v2 := (-2)) (Z3 := Z) hC dL_refusesAny_258 (cX4_add_c l hokw7 n hn hn12 nx kp hnx hnx6 hkp hkp6 0 100) (rf_add1 (Or.inr (by decide +kernel))) (cwV 2 hC.2.2.2.2.1 gL_refusesAny_X4_add rfl rfl rfl (by decide +kernel) ⟨Nat.le_of_ble_eq_true rfl, Nat.le_of_ble_eq_true rfl⟩) (ok_mem hokw7 (by decide)) (ok_Xo hokw7) rfl rfl rfl rfl (Nat.le_of_ble_eq_true rfl) (Nat.zero_le _) (Nat.zero_le _) (fun f8 hokw8 => ?_)
    refine pg_bipush (pc := 261) (v := (-2)) hC dL_refusesAny_261 (by decide) ?_
    refine pg_icmp_ne (pc := 263) hC 474 dL_refusesAny_263 (by decide)  (fun c20 => False.elim (c20 rfl)) (fun c20 => ?_)
    refine pg_aload_n (pc := 266) hC dL_refusesAny_266 5 rfl rfl ?_
    refine pg_iconst (pc := 267) (v := 5) hC dL_refusesAny_267 (by decide) ?_
    refine pg_callVYi (pc := 268) (As := [.int 5]) (rest := []) (v2 := nI n) hC dL_refusesAny_268 (cX4_count_c l hokw8 n hn hn12 5 _ rfl) ((tC _ _).2.2.2.2.2.1.trans hn) (cwV 1 hC.2.2.2.2.1 gL_refusesAny_X4_count rfl rfl rfl (by decide +kernel) ⟨Nat.le_of_ble_eq_true rfl, Nat.le_of_ble_eq_true rfl⟩) (ok_mem hokw8 (by decide)) (ok_Xo hokw8) rfl rfl rfl rfl (Nat.le_of_ble_eq_true rfl) (Nat.zero_le _) (Nat.zero_le _) ?_
    refine pg_bipush (pc := 271) (v := 12) hC dL_refusesAny_271 (by decide) ?_
    refine pg_join (pc := 273) (σ := Nat → va_E) (fun q => match q with | g_1 => pv_ok κ x L g_1 Z) 287 (fun q => match q with | g_1 => [(6, .int an_y), (5, .int (nI (X % 10))), (4, .int (nI (100 + (X % 99)))), (3, .int (nI (n + (X % 99)))), (2, .int (nI (10 + (X % 99)))), (0, .ref (x 12 2)), (1, .int (nI X))]) (fun q => match q with | g_1 => []) (fun q => match q with | g_1 => g_1) ?_ (fun j21 => ?_)
    · skip
      intro q hI
      obtain ⟨g_1, rfl⟩ : ∃ z, z = q := ⟨_, rfl⟩
      try dsimp only
      have hokg1 : pv_ok κ x L g_1 Z := hI
      refine pg_aload_n (pc := 287) hC dL_refusesAny_287 5 rfl rfl ?_
      refine pg_iload_n (pc := 288) hC dL_refusesAny_288 3 rfl rfl ?_
      refine pg_iconst (pc := 289) (v := 0) hC dL_refusesAny_289 (by decide) ?_
      refine pg_callVXi (pc := 290) (As := [.int (nI (n + (X % 99))), .int 0]) (rest := []) (v2 := (-1)) (Z3 := Z) hC dL_refusesAny_290 (cX4_worth_c l hokg1 n hn hn12 nx kp hnx hnx6 hkp hkp6 (nI (n + (X % 99))) 0) (rf_worth1 hee) (cwV 2 hC.2.2.2.2.1 gL_refusesAny_X4_worth rfl rfl rfl (by decide +kernel) ⟨Nat.le_of_ble_eq_true rfl, Nat.le_of_ble_eq_true rfl⟩) (ok_mem hokg1 (by decide)) (ok_Xo hokg1) rfl rfl rfl rfl (Nat.le_of_ble_eq_true rfl) (Nat.zero_le _) (Nat.zero_le _) (fun f9 hokw9 => ?_)
      refine pg_iconst (pc := 293) (v := (-1)) hC dL_refusesAny_293 (by decide) ?_
      refine pg_icmp_ne (pc := 294) hC 474 dL_refusesAny_294 (by decide)  (fun c22 => False.elim (c22 rfl)) (fun c22 => ?_)
      refine pg_iload (pc := 297) hC dL_refusesAny_297 0 rfl ?_
      refine pg_join (pc := 299) (σ := Nat → va_E) (fun q => match q with | g_2 => pv_ok κ x L g_2 Z) 324 (fun q => match q with | g_2 => [(6, .int an_y), (5, .int (nI (X % 10))), (4, .int (nI (100 + (X % 99)))), (3, .int (nI (n + (X % 99)))), (2, .int (nI (10 + (X % 99)))), (0, .ref (x 12 2)), (1, .int (nI X))]) (fun q => match q with | g_2 => []) (fun q => match q with | g_2 => g_2) ?_ (fun j23 => ?_)
      · skip
        intro q hI
        obtain ⟨g_2, rfl⟩ : ∃ z, z = q := ⟨_, rfl⟩
        try dsimp only
        have hokg2 : pv_ok κ x L g_2 Z := hI
        refine pg_aload_n (pc := 324) hC dL_refusesAny_324 5 rfl rfl ?_
        refine pg_iload_n (pc := 325) hC dL_refusesAny_325 4 rfl rfl ?_
        refine pg_iconst (pc := 326) (v := 0) hC dL_refusesAny_326 (by decide) ?_
        refine pg_bipush (pc := 327) (v := (-6)) hC dL_refusesAny_327 (by decide) ?_
        refine pg_iload (pc := 329) hC dL_refusesAny_329 2 rfl ?_
        refine pg_callVXi (pc := 331) (As := [.int (nI (10 + (X % 99))), .int 0, .int (-6), .int (nI (100 + (X % 99)))]) (rest := []) (v2 := (-1)) (Z3 := Z) hC dL_refusesAny_331 (cX4_offer_c l hokg2 n hn hn12 nx kp hnx hnx6 hkp hkp6 (nI (10 + (X % 99))) 0 (-6) (nI (100 + (X % 99)))) (rf_off (rf_e1 hpp) (by decide)) (cwV 4 hC.2.2.2.2.1 gL_refusesAny_X4_offer rfl rfl rfl (by decide +kernel) ⟨Nat.le_of_ble_eq_true rfl, Nat.le_of_ble_eq_true rfl⟩) (ok_mem hokg2 (by decide)) (ok_Xo hokg2) rfl rfl rfl rfl (Nat.le_of_ble_eq_true rfl) (Nat.zero_le _) (Nat.zero_le _) (fun f10 hokw10 => ?_)
        refine pg_iconst (pc := 334) (v := (-1)) hC dL_refusesAny_334 (by decide) ?_
        refine pg_icmp_ne (pc := 335) hC 474 dL_refusesAny_335 (by decide)  (fun c24 => False.elim (c24 rfl)) (fun c24 => ?_)
        refine pg_aload_n (pc := 338) hC dL_refusesAny_338 5 rfl rfl ?_
        refine pg_iload (pc := 339) hC dL_refusesAny_339 1 rfl ?_
        refine pg_iload_n (pc := 341) hC dL_refusesAny_341 3 rfl rfl ?_
        refine pg_bipush (pc := 342) (v := (-6)) hC dL_refusesAny_342 (by decide) ?_
        refine pg_iload (pc := 344) hC dL_refusesAny_344 2 rfl ?_
        refine pg_callVXi (pc := 346) (As := [.int (nI (X % 10)), .int (nI (n + (X % 99))), .int (-6), .int (nI (100 + (X % 99)))]) (rest := []) (v2 := (-1)) (Z3 := Z) hC dL_refusesAny_346 (cX4_offer_c l hokw10 n hn hn12 nx kp hnx hnx6 hkp hkp6 (nI (X % 10)) (nI (n + (X % 99))) (-6) (nI (100 + (X % 99)))) (rf_off (rf_e2 hee) (by decide)) (cwV 4 hC.2.2.2.2.1 gL_refusesAny_X4_offer rfl rfl rfl (by decide +kernel) ⟨Nat.le_of_ble_eq_true rfl, Nat.le_of_ble_eq_true rfl⟩) (ok_mem hokw10 (by decide)) (ok_Xo hokw10) rfl rfl rfl rfl (Nat.le_of_ble_eq_true rfl) (Nat.zero_le _) (Nat.zero_le _) (fun f11 hokw11 => ?_)
        refine pg_iconst (pc := 349) (v := (-1)) hC dL_refusesAny_349 (by decide) ?_
        refine pg_icmp_ne (pc := 350) hC 474 dL_refusesAny_350 (by decide)  (fun c25 => False.elim (c25 rfl)) (fun c25 => ?_)
        refine pg_aload_n (pc := 353) hC dL_refusesAny_353 5 rfl rfl ?_
        refine pg_iload (pc := 354) hC dL_refusesAny_354 1 rfl ?_
        refine pg_iconst (pc := 356) (v := 0) hC dL_refusesAny_356 (by decide) ?_
        refine pg_iload_n (pc := 357) hC dL_refusesAny_357 4 rfl rfl ?_
        refine pg_iload (pc := 358) hC dL_refusesAny_358 2 rfl ?_
        refine pg_callVXi (pc := 360) (As := [.int (nI (X % 10)), .int 0, .int (nI (10 + (X % 99))), .int (nI (100 + (X % 99)))]) (rest := []) (v2 := (-1)) (Z3 := Z) hC dL_refusesAny_360 (cX4_offer_c l hokw11 n hn hn12 nx kp hnx hnx6 hkp hkp6 (nI (X % 10)) 0 (nI (10 + (X % 99))) (nI (100 + (X % 99)))) (rf_off (rf_e3 ⟨hpp6, hpp⟩) (by decide)) (cwV 4 hC.2.2.2.2.1 gL_refusesAny_X4_offer rfl rfl rfl (by decide +kernel) ⟨Nat.le_of_ble_eq_true rfl, Nat.le_of_ble_eq_true rfl⟩) (ok_mem hokw11 (by decide)) (ok_Xo hokw11) rfl rfl rfl rfl (Nat.le_of_ble_eq_true rfl) (Nat.zero_le _) (Nat.zero_le _) (fun f12 hokw12 => ?_)
        refine pg_iconst (pc := 363) (v := (-1)) hC dL_refusesAny_363 (by decide) ?_
        refine pg_icmp_ne (pc := 364) hC 474 dL_refusesAny_364 (by decide)  (fun c26 => False.elim (c26 rfl)) (fun c26 => ?_)
        refine pg_iload (pc := 367) hC dL_refusesAny_367 0 rfl ?_
        refine pg_join (pc := 369) (σ := Nat → va_E) (fun q => match q with | g_3 => pv_ok κ x L g_3 Z) 403 (fun q => match q with | g_3 => [(6, .int an_y), (5, .int (nI (X % 10))), (4, .int (nI (100 + (X % 99)))), (3, .int (nI (n + (X % 99)))), (2, .int (nI (10 + (X % 99)))), (0, .ref (x 12 2)), (1, .int (nI X))]) (fun q => match q with | g_3 => []) (fun q => match q with | g_3 => g_3) ?_ (fun j27 => ?_)
        · skip
          intro q hI
          obtain ⟨g_3, rfl⟩ : ∃ z, z = q := ⟨_, rfl⟩
          try dsimp only
          have hokg3 : pv_ok κ x L g_3 Z := hI
          refine pg_aload_n (pc := 403) hC dL_refusesAny_403 5 rfl rfl ?_
          refine pg_iload_n (pc := 404) hC dL_refusesAny_404 4 rfl rfl ?_
          refine pg_iconst (pc := 405) (v := 0) hC dL_refusesAny_405 (by decide) ?_
          refine pg_callVXi (pc := 406) (As := [.int (nI (10 + (X % 99))), .int 0]) (rest := []) (v2 := (-1)) (Z3 := Z) hC dL_refusesAny_406 (cX4_pay_c l hokg3 nx kp hnx hnx6 hkp hkp6 (nI (10 + (X % 99))) 0) (rf_pay1 hpp) (cwV 2 hC.2.2.2.2.1 gL_refusesAny_X4_pay rfl rfl rfl (by decide +kernel) ⟨Nat.le_of_ble_eq_true rfl, Nat.le_of_ble_eq_true rfl⟩) (ok_mem hokg3 (by decide)) (ok_Xo hokg3) rfl rfl rfl rfl (Nat.le_of_ble_eq_true rfl) (Nat.zero_le _) (Nat.zero_le _) (fun f13 hokw13 => ?_)
          refine pg_iconst (pc := 409) (v := (-1)) hC dL_refusesAny_409 (by decide) ?_
          refine pg_icmp_ne (pc := 410) hC 474 dL_refusesAny_410 (by decide)  (fun c28 => False.elim (c28 rfl)) (fun c28 => ?_)
          refine pg_aload_n (pc := 413) hC dL_refusesAny_413 5 rfl rfl ?_
          refine pg_iload (pc := 414) hC dL_refusesAny_414 1 rfl ?_
          refine pg_iload_n (pc := 416) hC dL_refusesAny_416 6 rfl rfl ?_
          refine pg_iconst (pc := 417) (v := 2) hC dL_refusesAny_417 (by decide) ?_
          refine pg_irem (pc := 418) (v := nI (X % 2)) hC dL_refusesAny_418 (by decide) (pk_rem (a := X) (d := 2) (by omega) (by omega) (by omega)) ?_
          refine pg_if_ne (pc := 419) hC 426 dL_refusesAny_419 (by decide)  (fun c29 => ?_) (fun c29 => False.elim (absurd ((nI_z (by omega)).mp c29) (by omega)))
          refine pg_sipush (pc := 426) (v := 10000) hC dL_refusesAny_426 (by decide) ?_
          refine pg_callVXi (pc := 429) (As := [.int (nI (X % 10)), .int 10000]) (rest := []) (v2 := (-2)) (Z3 := Z) hC dL_refusesAny_429 (cX4_pay_c l hokw13 nx kp hnx hnx6 hkp hkp6 (nI (X % 10)) 10000) (rf_pay2 (tPx hso) (by decide +kernel)) (cwV 2 hC.2.2.2.2.1 gL_refusesAny_X4_pay rfl rfl rfl (by decide +kernel) ⟨Nat.le_of_ble_eq_true rfl, Nat.le_of_ble_eq_true rfl⟩) (ok_mem hokw13 (by decide)) (ok_Xo hokw13) rfl rfl rfl rfl (Nat.le_of_ble_eq_true rfl) (Nat.zero_le _) (Nat.zero_le _) (fun f14 hokw14 => ?_)
          refine pg_bipush (pc := 432) (v := (-2)) hC dL_refusesAny_432 (by decide) ?_
          refine pg_icmp_ne (pc := 434) hC 474 dL_refusesAny_434 (by decide)  (fun c30 => False.elim (c30 rfl)) (fun c30 => ?_)
          refine pg_aload_n (pc := 437) hC dL_refusesAny_437 5 rfl rfl ?_
          refine pg_iload (pc := 438) hC dL_refusesAny_438 1 rfl ?_
          refine pg_iconst (pc := 440) (v := 1) hC dL_refusesAny_440 (by decide) ?_
          refine pg_callVYi (pc := 441) (As := [.int (nI (X % 10)), .int 1]) (rest := []) (v2 := Z 0 7 (X % 10)) hC dL_refusesAny_441 (cX4_pupil_c l hokw14 (nI (X % 10)) 1) (tP1 (by omega)) (cwV 2 hC.2.2.2.2.1 gL_refusesAny_X4_pupil rfl rfl rfl (by decide +kernel) ⟨Nat.le_of_ble_eq_true rfl, Nat.le_of_ble_eq_true rfl⟩) (ok_mem hokw14 (by decide)) (ok_Xo hokw14) rfl rfl rfl rfl (Nat.le_of_ble_eq_true rfl) (Nat.zero_le _) (Nat.zero_le _) ?_
          refine pg_sipush (pc := 444) (v := 9998) hC dL_refusesAny_444 (by decide) ?_
          refine pg_join (pc := 447) (σ := Nat → va_E) (fun q => match q with | g_4 => pv_ok κ x L g_4 Z) 470 (fun q => match q with | g_4 => [(6, .int an_y), (5, .int (nI (X % 10))), (4, .int (nI (100 + (X % 99)))), (3, .int (nI (n + (X % 99)))), (2, .int (nI (10 + (X % 99)))), (0, .ref (x 12 2)), (1, .int (nI X))]) (fun q => match q with | g_4 => []) (fun q => match q with | g_4 => g_4) ?_ (fun j31 => ?_)
          · skip
            intro q hI
            obtain ⟨g_4, rfl⟩ : ∃ z, z = q := ⟨_, rfl⟩
            try dsimp only
            have hokg4 : pv_ok κ x L g_4 Z := hI
            refine pg_iconst (pc := 470) (v := 1) hC dL_refusesAny_470 (by decide) ?_
            refine pg_goto (pc := 471) hC 475 dL_refusesAny_471 (by decide) ?_
            refine pg_istore (pc := 475) (vs' := [(7, .int 1), (6, .int an_y), (5, .int (nI (X % 10))), (4, .int (nI (100 + (X % 99)))), (3, .int (nI (n + (X % 99)))), (2, .int (nI (10 + (X % 99)))), (0, .ref (x 12 2)), (1, .int (nI X))]) hC dL_refusesAny_475 (by decide) rfl ?_
            refine pg_iload (pc := 477) hC dL_refusesAny_477 0 rfl ?_
            refine pg_if_eq (pc := 479) hC 802 dL_refusesAny_479 (by decide)  (fun c32 => False.elim (absurd c32 (by decide))) (fun c32 => ?_)
            refine pg_aload_n (pc := 482) hC dL_refusesAny_482 6 rfl rfl ?_
            refine pg_iload_n (pc := 483) hC dL_refusesAny_483 4 rfl rfl ?_
            refine pg_bipush (pc := 484) (v := 99) hC dL_refusesAny_484 (by decide) ?_
            refine pg_callVYi (pc := 486) (As := [.int (nI (n + (X % 99))), .int 99]) (rest := []) (v2 := (-1)) hC dL_refusesAny_486 (cX4_excuse_c l hokg4 n hn hn12 (nI (n + (X % 99))) 99) (rf_ex1 hee) (cwV 2 hC.2.2.2.2.1 gL_refusesAny_X4_excuse rfl rfl rfl (by decide +kernel) ⟨Nat.le_of_ble_eq_true rfl, Nat.le_of_ble_eq_true rfl⟩) (ok_mem hokg4 (by decide)) (ok_Xo hokg4) rfl rfl rfl rfl (Nat.le_of_ble_eq_true rfl) (Nat.zero_le _) (Nat.zero_le _) ?_
            refine pg_iconst (pc := 489) (v := (-1)) hC dL_refusesAny_489 (by decide) ?_
            refine pg_icmp_ne (pc := 490) hC 802 dL_refusesAny_490 (by decide)  (fun c33 => False.elim (c33 rfl)) (fun c33 => ?_)
            refine pg_iload (pc := 493) hC dL_refusesAny_493 1 rfl ?_
            refine pg_join (pc := 495) (σ := Nat → va_E) (fun q => match q with | g_5 => pv_ok κ x L g_5 Z) 519 (fun q => match q with | g_5 => [(7, .int 1), (6, .int an_y), (5, .int (nI (X % 10))), (4, .int (nI (100 + (X % 99)))), (3, .int (nI (n + (X % 99)))), (2, .int (nI (10 + (X % 99)))), (0, .ref (x 12 2)), (1, .int (nI X))]) (fun q => match q with | g_5 => []) (fun q => match q with | g_5 => g_5) ?_ (fun j34 => ?_)
            · skip
              intro q hI
              obtain ⟨g_5, rfl⟩ : ∃ z, z = q := ⟨_, rfl⟩
              try dsimp only
              have hokg5 : pv_ok κ x L g_5 Z := hI
              refine pg_aload_n (pc := 519) hC dL_refusesAny_519 6 rfl rfl ?_
              refine pg_iload_n (pc := 520) hC dL_refusesAny_520 5 rfl rfl ?_
              refine pg_bipush (pc := 521) (v := 99) hC dL_refusesAny_521 (by decide) ?_
              refine pg_callVYi (pc := 523) (As := [.int (nI (10 + (X % 99))), .int 99]) (rest := []) (v2 := (-1)) hC dL_refusesAny_523 (cX4_pupil_c l hokg5 (nI (10 + (X % 99))) 99) (rf_pu1 hpp) (cwV 2 hC.2.2.2.2.1 gL_refusesAny_X4_pupil rfl rfl rfl (by decide +kernel) ⟨Nat.le_of_ble_eq_true rfl, Nat.le_of_ble_eq_true rfl⟩) (ok_mem hokg5 (by decide)) (ok_Xo hokg5) rfl rfl rfl rfl (Nat.le_of_ble_eq_true rfl) (Nat.zero_le _) (Nat.zero_le _) ?_
              refine pg_iconst (pc := 526) (v := (-1)) hC dL_refusesAny_526 (by decide) ?_
              refine pg_icmp_ne (pc := 527) hC 802 dL_refusesAny_527 (by decide)  (fun c35 => False.elim (c35 rfl)) (fun c35 => ?_)
              refine pg_aload_n (pc := 530) hC dL_refusesAny_530 6 rfl rfl ?_
              refine pg_iload (pc := 531) hC dL_refusesAny_531 2 rfl ?_
              refine pg_iload_n (pc := 533) hC dL_refusesAny_533 7 rfl rfl ?_
              refine pg_iconst (pc := 534) (v := 2) hC dL_refusesAny_534 (by decide) ?_
              refine pg_irem (pc := 535) (v := nI (X % 2)) hC dL_refusesAny_535 (by decide) (pk_rem (a := X) (d := 2) (by omega) (by omega) (by omega)) ?_
              refine pg_if_ne (pc := 536) hC 543 dL_refusesAny_536 (by decide)  (fun c36 => ?_) (fun c36 => False.elim (absurd ((nI_z (by omega)).mp c36) (by omega)))
              refine pg_bipush (pc := 543) (v := 8) hC dL_refusesAny_543 (by decide) ?_
              refine pg_callVYi (pc := 545) (As := [.int (nI (X % 10)), .int 8]) (rest := []) (v2 := (-2)) hC dL_refusesAny_545 (cX4_pupil_c l hokg5 (nI (X % 10)) 8) (rf_pu2 (tPx hso) (by decide)) (cwV 2 hC.2.2.2.2.1 gL_refusesAny_X4_pupil rfl rfl rfl (by decide +kernel) ⟨Nat.le_of_ble_eq_true rfl, Nat.le_of_ble_eq_true rfl⟩) (ok_mem hokg5 (by decide)) (ok_Xo hokg5) rfl rfl rfl rfl (Nat.le_of_ble_eq_true rfl) (Nat.zero_le _) (Nat.zero_le _) ?_
              refine pg_bipush (pc := 548) (v := (-2)) hC dL_refusesAny_548 (by decide) ?_
              refine pg_icmp_ne (pc := 550) hC 802 dL_refusesAny_550 (by decide)  (fun c37 => False.elim (c37 rfl)) (fun c37 => ?_)
              refine pg_aload_n (pc := 553) hC dL_refusesAny_553 6 rfl rfl ?_
              refine pg_iload_n (pc := 554) hC dL_refusesAny_554 5 rfl rfl ?_
              refine pg_iconst (pc := 555) (v := 0) hC dL_refusesAny_555 (by decide) ?_
              refine pg_callVYi (pc := 556) (As := [.int (nI (10 + (X % 99))), .int 0]) (rest := []) (v2 := (-1)) hC dL_refusesAny_556 (cX4_novelty_c l hokg5 n hn hn12 (nI (10 + (X % 99))) 0) (rf_no1 hpp) (cwV 2 hC.2.2.2.2.1 gL_refusesAny_X4_novelty rfl rfl rfl (by decide +kernel) ⟨Nat.le_of_ble_eq_true rfl, Nat.le_of_ble_eq_true rfl⟩) (ok_mem hokg5 (by decide)) (ok_Xo hokg5) rfl rfl rfl rfl (Nat.le_of_ble_eq_true rfl) (Nat.zero_le _) (Nat.zero_le _) ?_
              refine pg_iconst (pc := 559) (v := (-1)) hC dL_refusesAny_559 (by decide) ?_
              refine pg_icmp_ne (pc := 560) hC 802 dL_refusesAny_560 (by decide)  (fun c38 => False.elim (c38 rfl)) (fun c38 => ?_)
              refine pg_aload_n (pc := 563) hC dL_refusesAny_563 6 rfl rfl ?_
              refine pg_iload (pc := 564) hC dL_refusesAny_564 2 rfl ?_
              refine pg_iload_n (pc := 566) hC dL_refusesAny_566 4 rfl rfl ?_
              refine pg_callVYi (pc := 567) (As := [.int (nI (X % 10)), .int (nI (n + (X % 99)))]) (rest := []) (v2 := (-1)) hC dL_refusesAny_567 (cX4_novelty_c l hokg5 n hn hn12 (nI (X % 10)) (nI (n + (X % 99)))) (rf_no2 hee) (cwV 2 hC.2.2.2.2.1 gL_refusesAny_X4_novelty rfl rfl rfl (by decide +kernel) ⟨Nat.le_of_ble_eq_true rfl, Nat.le_of_ble_eq_true rfl⟩) (ok_mem hokg5 (by decide)) (ok_Xo hokg5) rfl rfl rfl rfl (Nat.le_of_ble_eq_true rfl) (Nat.zero_le _) (Nat.zero_le _) ?_
              refine pg_iconst (pc := 570) (v := (-1)) hC dL_refusesAny_570 (by decide) ?_
              refine pg_icmp_ne (pc := 571) hC 802 dL_refusesAny_571 (by decide)  (fun c39 => False.elim (c39 rfl)) (fun c39 => ?_)
              refine pg_aload_n (pc := 574) hC dL_refusesAny_574 6 rfl rfl ?_
              refine pg_iload_n (pc := 575) hC dL_refusesAny_575 5 rfl rfl ?_
              refine pg_iconst (pc := 576) (v := 0) hC dL_refusesAny_576 (by decide) ?_
              refine pg_bipush (pc := 577) (v := (-6)) hC dL_refusesAny_577 (by decide) ?_
              refine pg_iload (pc := 579) hC dL_refusesAny_579 3 rfl ?_
              refine pg_callVYi (pc := 581) (As := [.int (nI (10 + (X % 99))), .int 0, .int (-6), .int (nI (100 + (X % 99)))]) (rest := []) (v2 := (-1)) hC dL_refusesAny_581 (cX4_why_c l hokg5 n hn hn12 (nI (10 + (X % 99))) 0 (-6) (nI (100 + (X % 99)))) (rf_why (rf_e1 hpp) (by decide)) (cwV 4 hC.2.2.2.2.1 gL_refusesAny_X4_why rfl rfl rfl (by decide +kernel) ⟨Nat.le_of_ble_eq_true rfl, Nat.le_of_ble_eq_true rfl⟩) (ok_mem hokg5 (by decide)) (ok_Xo hokg5) rfl rfl rfl rfl (Nat.le_of_ble_eq_true rfl) (Nat.zero_le _) (Nat.zero_le _) ?_
              refine pg_iconst (pc := 584) (v := (-1)) hC dL_refusesAny_584 (by decide) ?_
              refine pg_icmp_ne (pc := 585) hC 802 dL_refusesAny_585 (by decide)  (fun c40 => False.elim (c40 rfl)) (fun c40 => ?_)
              refine pg_aload_n (pc := 588) hC dL_refusesAny_588 6 rfl rfl ?_
              refine pg_iload (pc := 589) hC dL_refusesAny_589 2 rfl ?_
              refine pg_iload_n (pc := 591) hC dL_refusesAny_591 4 rfl rfl ?_
              refine pg_iload (pc := 592) hC dL_refusesAny_592 2 rfl ?_
              refine pg_iload (pc := 594) hC dL_refusesAny_594 3 rfl ?_
              refine pg_callVYi (pc := 596) (As := [.int (nI (X % 10)), .int (nI (n + (X % 99))), .int (nI (X % 10)), .int (nI (100 + (X % 99)))]) (rest := []) (v2 := (-1)) hC dL_refusesAny_596 (cX4_why_c l hokg5 n hn hn12 (nI (X % 10)) (nI (n + (X % 99))) (nI (X % 10)) (nI (100 + (X % 99)))) (rf_why (rf_e2 hee) (by decide)) (cwV 4 hC.2.2.2.2.1 gL_refusesAny_X4_why rfl rfl rfl (by decide +kernel) ⟨Nat.le_of_ble_eq_true rfl, Nat.le_of_ble_eq_true rfl⟩) (ok_mem hokg5 (by decide)) (ok_Xo hokg5) rfl rfl rfl rfl (Nat.le_of_ble_eq_true rfl) (Nat.zero_le _) (Nat.zero_le _) ?_
              refine pg_iconst (pc := 599) (v := (-1)) hC dL_refusesAny_599 (by decide) ?_
              refine pg_icmp_ne (pc := 600) hC 802 dL_refusesAny_600 (by decide)  (fun c41 => False.elim (c41 rfl)) (fun c41 => ?_)
              refine pg_aload_n (pc := 603) hC dL_refusesAny_603 6 rfl rfl ?_
              refine pg_iload (pc := 604) hC dL_refusesAny_604 2 rfl ?_
              refine pg_iconst (pc := 606) (v := 0) hC dL_refusesAny_606 (by decide) ?_
              refine pg_iload_n (pc := 607) hC dL_refusesAny_607 5 rfl rfl ?_
              refine pg_iload (pc := 608) hC dL_refusesAny_608 3 rfl ?_
              refine pg_callVYi (pc := 610) (As := [.int (nI (X % 10)), .int 0, .int (nI (10 + (X % 99))), .int (nI (100 + (X % 99)))]) (rest := []) (v2 := (-1)) hC dL_refusesAny_610 (cX4_weight_c l hokg5 n hn hn12 (nI (X % 10)) 0 (nI (10 + (X % 99))) (nI (100 + (X % 99)))) (rf_wei (rf_e3 ⟨hpp6, hpp⟩) (by decide)) (cwV 4 hC.2.2.2.2.1 gL_refusesAny_X4_weight rfl rfl rfl (by decide +kernel) ⟨Nat.le_of_ble_eq_true rfl, Nat.le_of_ble_eq_true rfl⟩) (ok_mem hokg5 (by decide)) (ok_Xo hokg5) rfl rfl rfl rfl (Nat.le_of_ble_eq_true rfl) (Nat.zero_le _) (Nat.zero_le _) ?_
              refine pg_iconst (pc := 613) (v := (-1)) hC dL_refusesAny_613 (by decide) ?_
              refine pg_icmp_ne (pc := 614) hC 802 dL_refusesAny_614 (by decide)  (fun c42 => False.elim (c42 rfl)) (fun c42 => ?_)
              refine pg_iload (pc := 617) hC dL_refusesAny_617 1 rfl ?_
              refine pg_join (pc := 619) (σ := Nat → va_E) (fun q => match q with | g_6 => pv_ok κ x L g_6 Z) 667 (fun q => match q with | g_6 => [(7, .int 1), (6, .int an_y), (5, .int (nI (X % 10))), (4, .int (nI (100 + (X % 99)))), (3, .int (nI (n + (X % 99)))), (2, .int (nI (10 + (X % 99)))), (0, .ref (x 12 2)), (1, .int (nI X))]) (fun q => match q with | g_6 => []) (fun q => match q with | g_6 => g_6) ?_ (fun j43 => ?_)
              · skip
                intro q hI
                obtain ⟨g_6, rfl⟩ : ∃ z, z = q := ⟨_, rfl⟩
                try dsimp only
                have hokg6 : pv_ok κ x L g_6 Z := hI
                refine pg_aload_n (pc := 667) hC dL_refusesAny_667 6 rfl rfl ?_
                refine pg_iload_n (pc := 668) hC dL_refusesAny_668 7 rfl rfl ?_
                refine pg_iconst (pc := 669) (v := 2) hC dL_refusesAny_669 (by decide) ?_
                refine pg_irem (pc := 670) (v := nI (X % 2)) hC dL_refusesAny_670 (by decide) (pk_rem (a := X) (d := 2) (by omega) (by omega) (by omega)) ?_
                refine pg_if_ne (pc := 671) hC 678 dL_refusesAny_671 (by decide)  (fun c44 => ?_) (fun c44 => False.elim (absurd ((nI_z (by omega)).mp c44) (by omega)))
                refine pg_bipush (pc := 678) (v := 20) hC dL_refusesAny_678 (by decide) ?_
                refine pg_callVYi (pc := 680) (As := [.int 20]) (rest := []) (v2 := (-2)) hC dL_refusesAny_680 (cX4_count_c l hokg6 n hn hn12 20 _ rfl) rfl (cwV 1 hC.2.2.2.2.1 gL_refusesAny_X4_count rfl rfl rfl (by decide +kernel) ⟨Nat.le_of_ble_eq_true rfl, Nat.le_of_ble_eq_true rfl⟩) (ok_mem hokg6 (by decide)) (ok_Xo hokg6) rfl rfl rfl rfl (Nat.le_of_ble_eq_true rfl) (Nat.zero_le _) (Nat.zero_le _) ?_
                refine pg_bipush (pc := 683) (v := (-2)) hC dL_refusesAny_683 (by decide) ?_
                refine pg_icmp_ne (pc := 685) hC 802 dL_refusesAny_685 (by decide)  (fun c45 => False.elim (c45 rfl)) (fun c45 => ?_)
                refine pg_aload_n (pc := 688) hC dL_refusesAny_688 6 rfl rfl ?_
                refine pg_iload_n (pc := 689) hC dL_refusesAny_689 5 rfl rfl ?_
                refine pg_iload (pc := 690) hC dL_refusesAny_690 3 rfl ?_
                refine pg_callVYi (pc := 692) (As := [.int (nI (10 + (X % 99))), .int (nI (100 + (X % 99)))]) (rest := []) (v2 := (-1)) hC dL_refusesAny_692 (cX4_bestExcuse_c l hokg6 n hn hn12 (nI (10 + (X % 99))) (nI (100 + (X % 99)))) (rf_be1 hpp) (cwV 2 hC.2.2.2.2.1 gL_refusesAny_X4_bestExcuse rfl rfl rfl (by decide +kernel) ⟨Nat.le_of_ble_eq_true rfl, Nat.le_of_ble_eq_true rfl⟩) (ok_mem hokg6 (by decide)) (ok_Xo hokg6) rfl rfl rfl rfl (Nat.le_of_ble_eq_true rfl) (Nat.zero_le _) (Nat.zero_le _) ?_
                refine pg_iconst (pc := 695) (v := (-1)) hC dL_refusesAny_695 (by decide) ?_
                refine pg_icmp_ne (pc := 696) hC 802 dL_refusesAny_696 (by decide)  (fun c46 => False.elim (c46 rfl)) (fun c46 => ?_)
                refine pg_aload_n (pc := 699) hC dL_refusesAny_699 6 rfl rfl ?_
                refine pg_iload (pc := 700) hC dL_refusesAny_700 2 rfl ?_
                refine pg_iload (pc := 702) hC dL_refusesAny_702 3 rfl ?_
                refine pg_callVYi (pc := 704) (As := [.int (nI (X % 10)), .int (nI (100 + (X % 99)))]) (rest := []) (v2 := (-2)) hC dL_refusesAny_704 (cX4_bestExcuse_c l hokg6 n hn hn12 (nI (X % 10)) (nI (100 + (X % 99)))) (rf_be2 (tPx hso) hmm) (cwV 2 hC.2.2.2.2.1 gL_refusesAny_X4_bestExcuse rfl rfl rfl (by decide +kernel) ⟨Nat.le_of_ble_eq_true rfl, Nat.le_of_ble_eq_true rfl⟩) (ok_mem hokg6 (by decide)) (ok_Xo hokg6) rfl rfl rfl rfl (Nat.le_of_ble_eq_true rfl) (Nat.zero_le _) (Nat.zero_le _) ?_
                refine pg_bipush (pc := 707) (v := (-2)) hC dL_refusesAny_707 (by decide) ?_
                refine pg_icmp_ne (pc := 709) hC 802 dL_refusesAny_709 (by decide)  (fun c47 => False.elim (c47 rfl)) (fun c47 => ?_)
                refine pg_aload_n (pc := 712) hC dL_refusesAny_712 6 rfl rfl ?_
                refine pg_iload_n (pc := 713) hC dL_refusesAny_713 5 rfl rfl ?_
                refine pg_iconst (pc := 714) (v := 0) hC dL_refusesAny_714 (by decide) ?_
                refine pg_iload (pc := 715) hC dL_refusesAny_715 3 rfl ?_
                refine pg_callVYi (pc := 717) (As := [.int (nI (10 + (X % 99))), .int 0, .int (nI (100 + (X % 99)))]) (rest := []) (v2 := (-1)) hC dL_refusesAny_717 (cX4_bestWitness_c l hokg6 n hn hn12 (nI (10 + (X % 99))) 0 (nI (100 + (X % 99)))) (rf_bw1 hpp) (cwV 3 hC.2.2.2.2.1 gL_refusesAny_X4_bestWitness rfl rfl rfl (by decide +kernel) ⟨Nat.le_of_ble_eq_true rfl, Nat.le_of_ble_eq_true rfl⟩) (ok_mem hokg6 (by decide)) (ok_Xo hokg6) rfl rfl rfl rfl (Nat.le_of_ble_eq_true rfl) (Nat.zero_le _) (Nat.zero_le _) ?_
                refine pg_iconst (pc := 720) (v := (-1)) hC dL_refusesAny_720 (by decide) ?_
                refine pg_icmp_ne (pc := 721) hC 802 dL_refusesAny_721 (by decide)  (fun c48 => False.elim (c48 rfl)) (fun c48 => ?_)
                refine pg_aload_n (pc := 724) hC dL_refusesAny_724 6 rfl rfl ?_
                refine pg_iload (pc := 725) hC dL_refusesAny_725 2 rfl ?_
                refine pg_iload_n (pc := 727) hC dL_refusesAny_727 4 rfl rfl ?_
                refine pg_iload (pc := 728) hC dL_refusesAny_728 3 rfl ?_
                refine pg_callVYi (pc := 730) (As := [.int (nI (X % 10)), .int (nI (n + (X % 99))), .int (nI (100 + (X % 99)))]) (rest := []) (v2 := (-1)) hC dL_refusesAny_730 (cX4_bestWitness_c l hokg6 n hn hn12 (nI (X % 10)) (nI (n + (X % 99))) (nI (100 + (X % 99)))) (rf_bw2 hee) (cwV 3 hC.2.2.2.2.1 gL_refusesAny_X4_bestWitness rfl rfl rfl (by decide +kernel) ⟨Nat.le_of_ble_eq_true rfl, Nat.le_of_ble_eq_true rfl⟩) (ok_mem hokg6 (by decide)) (ok_Xo hokg6) rfl rfl rfl rfl (Nat.le_of_ble_eq_true rfl) (Nat.zero_le _) (Nat.zero_le _) ?_
                refine pg_iconst (pc := 733) (v := (-1)) hC dL_refusesAny_733 (by decide) ?_
                refine pg_icmp_ne (pc := 734) hC 802 dL_refusesAny_734 (by decide)  (fun c49 => False.elim (c49 rfl)) (fun c49 => ?_)
                refine pg_aload_n (pc := 737) hC dL_refusesAny_737 6 rfl rfl ?_
                refine pg_iload_n (pc := 738) hC dL_refusesAny_738 5 rfl rfl ?_
                refine pg_iconst (pc := 739) (v := 0) hC dL_refusesAny_739 (by decide) ?_
                refine pg_callVYi (pc := 740) (As := [.int (nI (10 + (X % 99))), .int 0]) (rest := []) (v2 := (-1)) hC dL_refusesAny_740 (cX4_mostMinutes_c l hokg6 n hn hn12 (nI (10 + (X % 99))) 0) (rf_mo1 hpp) (cwV 2 hC.2.2.2.2.1 gL_refusesAny_X4_mostMinutes rfl rfl rfl (by decide +kernel) ⟨Nat.le_of_ble_eq_true rfl, Nat.le_of_ble_eq_true rfl⟩) (ok_mem hokg6 (by decide)) (ok_Xo hokg6) rfl rfl rfl rfl (Nat.le_of_ble_eq_true rfl) (Nat.zero_le _) (Nat.zero_le _) ?_
                refine pg_iconst (pc := 743) (v := (-1)) hC dL_refusesAny_743 (by decide) ?_
                refine pg_icmp_ne (pc := 744) hC 802 dL_refusesAny_744 (by decide)  (fun c50 => False.elim (c50 rfl)) (fun c50 => ?_)
                refine pg_aload_n (pc := 747) hC dL_refusesAny_747 6 rfl rfl ?_
                refine pg_iload (pc := 748) hC dL_refusesAny_748 2 rfl ?_
                refine pg_iload_n (pc := 750) hC dL_refusesAny_750 4 rfl rfl ?_
                refine pg_callVYi (pc := 751) (As := [.int (nI (X % 10)), .int (nI (n + (X % 99)))]) (rest := []) (v2 := (-1)) hC dL_refusesAny_751 (cX4_mostMinutes_c l hokg6 n hn hn12 (nI (X % 10)) (nI (n + (X % 99)))) (rf_mo2 hee) (cwV 2 hC.2.2.2.2.1 gL_refusesAny_X4_mostMinutes rfl rfl rfl (by decide +kernel) ⟨Nat.le_of_ble_eq_true rfl, Nat.le_of_ble_eq_true rfl⟩) (ok_mem hokg6 (by decide)) (ok_Xo hokg6) rfl rfl rfl rfl (Nat.le_of_ble_eq_true rfl) (Nat.zero_le _) (Nat.zero_le _) ?_
                refine pg_iconst (pc := 754) (v := (-1)) hC dL_refusesAny_754 (by decide) ?_
                refine pg_icmp_ne (pc := 755) hC 802 dL_refusesAny_755 (by decide)  (fun c51 => False.elim (c51 rfl)) (fun c51 => ?_)
                refine pg_aload_n (pc := 758) hC dL_refusesAny_758 6 rfl rfl ?_
                refine pg_iload_n (pc := 759) hC dL_refusesAny_759 7 rfl rfl ?_
                refine pg_iconst (pc := 760) (v := 2) hC dL_refusesAny_760 (by decide) ?_
                refine pg_irem (pc := 761) (v := nI (X % 2)) hC dL_refusesAny_761 (by decide) (pk_rem (a := X) (d := 2) (by omega) (by omega) (by omega)) ?_
                refine pg_if_ne (pc := 762) hC 769 dL_refusesAny_762 (by decide)  (fun c52 => ?_) (fun c52 => False.elim (absurd ((nI_z (by omega)).mp c52) (by omega)))
                refine pg_iconst (pc := 769) (v := 2) hC dL_refusesAny_769 (by decide) ?_
                refine pg_callVXi (pc := 770) (As := [.int 2]) (rest := []) (v2 := (-2)) (Z3 := Z) hC dL_refusesAny_770 (cX4_save_c l hokg6 2) (rf_save (by decide +kernel)) (cwV 1 hC.2.2.2.2.1 gL_refusesAny_X4_save rfl rfl rfl (by decide +kernel) ⟨Nat.le_of_ble_eq_true rfl, Nat.le_of_ble_eq_true rfl⟩) (ok_mem hokg6 (by decide)) (ok_Xo hokg6) rfl rfl rfl rfl (Nat.le_of_ble_eq_true rfl) (Nat.zero_le _) (Nat.zero_le _) (fun f15 hokw15 => ?_)
                refine pg_bipush (pc := 773) (v := (-2)) hC dL_refusesAny_773 (by decide) ?_
                refine pg_icmp_ne (pc := 775) hC 802 dL_refusesAny_775 (by decide)  (fun c53 => False.elim (c53 rfl)) (fun c53 => ?_)
                refine pg_aload_n (pc := 778) hC dL_refusesAny_778 6 rfl rfl ?_
                refine pg_iload_n (pc := 779) hC dL_refusesAny_779 7 rfl rfl ?_
                refine pg_iconst (pc := 780) (v := 2) hC dL_refusesAny_780 (by decide) ?_
                refine pg_irem (pc := 781) (v := nI (X % 2)) hC dL_refusesAny_781 (by decide) (pk_rem (a := X) (d := 2) (by omega) (by omega) (by omega)) ?_
                refine pg_if_ne (pc := 782) hC 789 dL_refusesAny_782 (by decide)  (fun c54 => ?_) (fun c54 => False.elim (absurd ((nI_z (by omega)).mp c54) (by omega)))
                refine pg_iconst (pc := 789) (v := 2) hC dL_refusesAny_789 (by decide) ?_
                refine pg_callVXi (pc := 790) (As := [.int 2]) (rest := []) (v2 := (-2)) (Z3 := Z) hC dL_refusesAny_790 (cX4_restore_c l hokw15 nx kp hnx hnx6 hkp hkp6 2) (rf_rest (by decide +kernel)) (cwV 1 hC.2.2.2.2.1 gL_refusesAny_X4_restore rfl rfl rfl (by decide +kernel) ⟨Nat.le_of_ble_eq_true rfl, Nat.le_of_ble_eq_true rfl⟩) (ok_mem hokw15 (by decide)) (ok_Xo hokw15) rfl rfl rfl rfl (Nat.le_of_ble_eq_true rfl) (Nat.zero_le _) (Nat.zero_le _) (fun f16 hokw16 => ?_)
                refine pg_bipush (pc := 793) (v := (-2)) hC dL_refusesAny_793 (by decide) ?_
                refine pg_icmp_ne (pc := 795) hC 802 dL_refusesAny_795 (by decide)  (fun c55 => False.elim (c55 rfl)) (fun c55 => ?_)
                refine pg_iconst (pc := 798) (v := 1) hC dL_refusesAny_798 (by decide) ?_
                refine pg_goto (pc := 799) hC 803 dL_refusesAny_799 (by decide) ?_
                refine pg_istore (pc := 803) (vs' := [(7, .int 1), (6, .int an_y), (5, .int (nI (X % 10))), (4, .int (nI (100 + (X % 99)))), (3, .int (nI (n + (X % 99)))), (2, .int (nI (10 + (X % 99)))), (0, .ref (x 12 2)), (1, .int (nI X))]) hC dL_refusesAny_803 (by decide) rfl ?_
                refine pg_iload (pc := 805) hC dL_refusesAny_805 0 rfl ?_
                refine pg_if_eq (pc := 807) hC 837 dL_refusesAny_807 (by decide)  (fun c56 => False.elim (absurd c56 (by decide))) (fun c56 => ?_)
                refine pg_aload_n (pc := 810) hC dL_refusesAny_810 6 rfl rfl ?_
                refine pg_callVXi (pc := 811) (As := []) (rest := []) (v2 := 0) (Z3 := (va_up Z 9 (zu (Z 9) 1 0 0))) hC dL_refusesAny_811 (cX4_wipe_c l hokw16) ⟨hpl, rfl⟩ (cwV 0 hC.2.2.2.2.1 gL_refusesAny_X4_wipe rfl rfl rfl (by decide +kernel) ⟨Nat.le_of_ble_eq_true rfl, Nat.le_of_ble_eq_true rfl⟩) (ok_mem hokw16 (by decide)) (ok_Xo hokw16) rfl rfl rfl rfl (Nat.le_of_ble_eq_true rfl) (Nat.zero_le _) (Nat.zero_le _) (fun f17 hokw17 => ?_)
                refine pg_if_ne (pc := 814) hC 837 dL_refusesAny_814 (by decide)  (fun c57 => False.elim (absurd c57 (by decide))) (fun c57 => ?_)
                refine pg_aload_n (pc := 817) hC dL_refusesAny_817 6 rfl rfl ?_
                refine pg_callVXi (pc := 818) (As := []) (rest := []) (v2 := (-3)) (Z3 := (va_up (va_up Z 9 (zu (Z 9) 1 0 0)) 10 (tFault (va_up Z 9 (zu (Z 9) 1 0 0)) 0).2)) hC dL_refusesAny_818 (cX4_read_c l hokw17 nx kp hnx hnx6 hkp hkp6 0 rfl (by decide)) rf_read (cwV 0 hC.2.2.2.2.1 gL_refusesAny_X4_read rfl rfl rfl (by decide +kernel) ⟨Nat.le_of_ble_eq_true rfl, Nat.le_of_ble_eq_true rfl⟩) (ok_mem hokw17 (by decide)) (ok_Xo hokw17) rfl rfl rfl rfl (Nat.le_of_ble_eq_true rfl) (Nat.zero_le _) (Nat.zero_le _) (fun f18 hokw18 => ?_)
                refine pg_bipush (pc := 821) (v := (-3)) hC dL_refusesAny_821 (by decide) ?_
                refine pg_icmp_ne (pc := 823) hC 837 dL_refusesAny_823 (by decide)  (fun c58 => False.elim (c58 rfl)) (fun c58 => ?_)
                refine pg_aload_n (pc := 826) hC dL_refusesAny_826 6 rfl rfl ?_
                refine pg_callVXi (pc := 827) (As := []) (rest := []) (v2 := 0) (Z3 := (va_up (va_up (va_up Z 9 (zu (Z 9) 1 0 0)) 10 (tFault (va_up Z 9 (zu (Z 9) 1 0 0)) 0).2) 10 (tFault (va_up (va_up Z 9 (zu (Z 9) 1 0 0)) 10 (tFault (va_up Z 9 (zu (Z 9) 1 0 0)) 0).2) 0).2)) hC dL_refusesAny_827 (cX4_fault_c l hokw18 0 rfl (by decide)) ⟨rf_flt, rfl⟩ (cwV 0 hC.2.2.2.2.1 gL_refusesAny_X4_fault rfl rfl rfl (by decide +kernel) ⟨Nat.le_of_ble_eq_true rfl, Nat.le_of_ble_eq_true rfl⟩) (ok_mem hokw18 (by decide)) (ok_Xo hokw18) rfl rfl rfl rfl (Nat.le_of_ble_eq_true rfl) (Nat.zero_le _) (Nat.zero_le _) (fun f19 hokw19 => ?_)
                refine pg_if_ne (pc := 830) hC 837 dL_refusesAny_830 (by decide)  (fun c59 => False.elim (absurd c59 (by decide))) (fun c59 => ?_)
                refine pg_iconst (pc := 833) (v := 1) hC dL_refusesAny_833 (by decide) ?_
                refine pg_goto (pc := 834) hC 838 dL_refusesAny_834 (by decide) ?_
                exact pg_zret (pc := 838) hC dL_refusesAny_838 rfl rfl ⟨rfl, _, hokw19, ⟨rfl, rf_RS _ _ _⟩⟩
              refine pg_if_eq (pc := 619) hC 667 dL_refusesAny_619 (by decide)  (fun c60 => ?_) (fun c60 => ?_)
              · skip
                exact j43 g_5 hokg5
              · skip
                have hn0 : 0 < n := hany.resolve_left c60
                have hb0 : ¬ bH (Z 0) 0 = 0 := tEx (e := 0) hn hn12 hn0
                refine pg_aload_n (pc := 622) hC dL_refusesAny_622 6 rfl rfl ?_
                refine pg_iload (pc := 623) hC dL_refusesAny_623 2 rfl ?_
                refine pg_iconst (pc := 625) (v := 0) hC dL_refusesAny_625 (by decide) ?_
                refine pg_bipush (pc := 626) (v := (-6)) hC dL_refusesAny_626 (by decide) ?_
                refine pg_iload (pc := 628) hC dL_refusesAny_628 3 rfl ?_
                refine pg_callVYi (pc := 630) (As := [.int (nI (X % 10)), .int 0, .int (-6), .int (nI (100 + (X % 99)))]) (rest := []) (v2 := (-2)) hC dL_refusesAny_630 (cX4_why_c l hokg5 n hn hn12 (nI (X % 10)) 0 (-6) (nI (100 + (X % 99)))) (rf_why (rf_e4 (tPx hso) hb0 (fun q => absurd rfl q.1) hmm) (by decide)) (cwV 4 hC.2.2.2.2.1 gL_refusesAny_X4_why rfl rfl rfl (by decide +kernel) ⟨Nat.le_of_ble_eq_true rfl, Nat.le_of_ble_eq_true rfl⟩) (ok_mem hokg5 (by decide)) (ok_Xo hokg5) rfl rfl rfl rfl (Nat.le_of_ble_eq_true rfl) (Nat.zero_le _) (Nat.zero_le _) ?_
                refine pg_bipush (pc := 633) (v := (-2)) hC dL_refusesAny_633 (by decide) ?_
                refine pg_icmp_ne (pc := 635) hC 802 dL_refusesAny_635 (by decide)  (fun c61 => False.elim (c61 rfl)) (fun c61 => ?_)
                refine pg_aload_n (pc := 638) hC dL_refusesAny_638 6 rfl rfl ?_
                refine pg_iload (pc := 639) hC dL_refusesAny_639 2 rfl ?_
                refine pg_iconst (pc := 641) (v := 0) hC dL_refusesAny_641 (by decide) ?_
                refine pg_iload (pc := 642) hC dL_refusesAny_642 2 rfl ?_
                refine pg_iconst (pc := 644) (v := 5) hC dL_refusesAny_644 (by decide) ?_
                refine pg_callVYi (pc := 645) (As := [.int (nI (X % 10)), .int 0, .int (nI (X % 10)), .int 5]) (rest := []) (v2 := (-2)) hC dL_refusesAny_645 (cX4_weight_c l hokg5 n hn hn12 (nI (X % 10)) 0 (nI (X % 10)) 5) (rf_wei (rf_e5 (tPx hso) hb0 (fun q => tPx hso q.2) rfl) (by decide)) (cwV 4 hC.2.2.2.2.1 gL_refusesAny_X4_weight rfl rfl rfl (by decide +kernel) ⟨Nat.le_of_ble_eq_true rfl, Nat.le_of_ble_eq_true rfl⟩) (ok_mem hokg5 (by decide)) (ok_Xo hokg5) rfl rfl rfl rfl (Nat.le_of_ble_eq_true rfl) (Nat.zero_le _) (Nat.zero_le _) ?_
                refine pg_bipush (pc := 648) (v := (-2)) hC dL_refusesAny_648 (by decide) ?_
                refine pg_icmp_ne (pc := 650) hC 802 dL_refusesAny_650 (by decide)  (fun c62 => False.elim (c62 rfl)) (fun c62 => ?_)
                refine pg_aload_n (pc := 653) hC dL_refusesAny_653 6 rfl rfl ?_
                refine pg_iload (pc := 654) hC dL_refusesAny_654 2 rfl ?_
                refine pg_iconst (pc := 656) (v := 0) hC dL_refusesAny_656 (by decide) ?_
                refine pg_iload (pc := 657) hC dL_refusesAny_657 3 rfl ?_
                refine pg_callVYi (pc := 659) (As := [.int (nI (X % 10)), .int 0, .int (nI (100 + (X % 99)))]) (rest := []) (v2 := (-2)) hC dL_refusesAny_659 (cX4_bestWitness_c l hokg5 n hn hn12 (nI (X % 10)) 0 (nI (100 + (X % 99)))) (rf_bw3 (tPx hso) hb0 hmm) (cwV 3 hC.2.2.2.2.1 gL_refusesAny_X4_bestWitness rfl rfl rfl (by decide +kernel) ⟨Nat.le_of_ble_eq_true rfl, Nat.le_of_ble_eq_true rfl⟩) (ok_mem hokg5 (by decide)) (ok_Xo hokg5) rfl rfl rfl rfl (Nat.le_of_ble_eq_true rfl) (Nat.zero_le _) (Nat.zero_le _) ?_
                refine pg_bipush (pc := 662) (v := (-2)) hC dL_refusesAny_662 (by decide) ?_
                refine pg_icmp_ne (pc := 664) hC 802 dL_refusesAny_664 (by decide)  (fun c63 => False.elim (c63 rfl)) (fun c63 => ?_)
                exact j43 g_5 hokg5
            refine pg_if_eq (pc := 495) hC 519 dL_refusesAny_495 (by decide)  (fun c64 => ?_) (fun c64 => ?_)
            · skip
              exact j34 g_4 hokg4
            · skip
              have hn0 : 0 < n := hany.resolve_left c64
              have hb0 : ¬ bH (Z 0) 0 = 0 := tEx (e := 0) hn hn12 hn0
              refine pg_aload_n (pc := 498) hC dL_refusesAny_498 6 rfl rfl ?_
              refine pg_iconst (pc := 499) (v := 0) hC dL_refusesAny_499 (by decide) ?_
              refine pg_iload_n (pc := 500) hC dL_refusesAny_500 7 rfl rfl ?_
              refine pg_iconst (pc := 501) (v := 2) hC dL_refusesAny_501 (by decide) ?_
              refine pg_irem (pc := 502) (v := nI (X % 2)) hC dL_refusesAny_502 (by decide) (pk_rem (a := X) (d := 2) (by omega) (by omega) (by omega)) ?_
              refine pg_if_ne (pc := 503) hC 510 dL_refusesAny_503 (by decide)  (fun c65 => ?_) (fun c65 => False.elim (absurd ((nI_z (by omega)).mp c65) (by omega)))
              refine pg_iconst (pc := 510) (v := 5) hC dL_refusesAny_510 (by decide) ?_
              refine pg_callVYi (pc := 511) (As := [.int 0, .int 5]) (rest := []) (v2 := (-2)) hC dL_refusesAny_511 (cX4_excuse_c l hokg4 n hn hn12 0 5) (rf_ex2 hb0 (by decide)) (cwV 2 hC.2.2.2.2.1 gL_refusesAny_X4_excuse rfl rfl rfl (by decide +kernel) ⟨Nat.le_of_ble_eq_true rfl, Nat.le_of_ble_eq_true rfl⟩) (ok_mem hokg4 (by decide)) (ok_Xo hokg4) rfl rfl rfl rfl (Nat.le_of_ble_eq_true rfl) (Nat.zero_le _) (Nat.zero_le _) ?_
              refine pg_bipush (pc := 514) (v := (-2)) hC dL_refusesAny_514 (by decide) ?_
              refine pg_icmp_ne (pc := 516) hC 802 dL_refusesAny_516 (by decide)  (fun c66 => False.elim (c66 rfl)) (fun c66 => ?_)
              exact j34 g_4 hokg4
          refine pg_icmp_gt (pc := 447) hC 470 dL_refusesAny_447 (by decide)  (fun c67 => ?_) (fun c67 => ?_)
          · skip
            exact j31 f14 hokw14
          · skip
            refine pg_aload_n (pc := 450) hC dL_refusesAny_450 5 rfl rfl ?_
            refine pg_iload (pc := 451) hC dL_refusesAny_451 1 rfl ?_
            refine pg_aload_n (pc := 453) hC dL_refusesAny_453 5 rfl rfl ?_
            refine pg_iload (pc := 454) hC dL_refusesAny_454 1 rfl ?_
            refine pg_iconst (pc := 456) (v := 1) hC dL_refusesAny_456 (by decide) ?_
            refine pg_callVYi (pc := 457) (As := [.int (nI (X % 10)), .int 1]) (rest := [.int (nI (X % 10)), .ref (x 12 2)]) (v2 := Z 0 7 (X % 10)) hC dL_refusesAny_457 (cX4_pupil_c l hokw14 (nI (X % 10)) 1) (tP1 (by omega)) (cwV 2 hC.2.2.2.2.1 gL_refusesAny_X4_pupil rfl rfl rfl (by decide +kernel) ⟨Nat.le_of_ble_eq_true rfl, Nat.le_of_ble_eq_true rfl⟩) (ok_mem hokw14 (by decide)) (ok_Xo hokw14) rfl rfl rfl rfl (Nat.le_of_ble_eq_true rfl) (Nat.zero_le _) (Nat.zero_le _) ?_
            refine pg_iconst (pc := 460) (v := 1) hC dL_refusesAny_460 (by decide) ?_
            refine pg_iadd (pc := 461) (v := (Z 0 7 (X % 10)) + 1) hC dL_refusesAny_461 rfl ?_
            refine pg_callVXi (pc := 462) (As := [.int (nI (X % 10)), .int ((Z 0 7 (X % 10)) + 1)]) (rest := []) (v2 := (-5)) (Z3 := Z) hC dL_refusesAny_462 (cX4_pay_c l hokw14 nx kp hnx hnx6 hkp hkp6 (nI (X % 10)) ((Z 0 7 (X % 10)) + 1)) (rf_pay3 h hK hso c67) (cwV 2 hC.2.2.2.2.1 gL_refusesAny_X4_pay rfl rfl rfl (by decide +kernel) ⟨Nat.le_of_ble_eq_true rfl, Nat.le_of_ble_eq_true rfl⟩) (ok_mem hokw14 (by decide)) (ok_Xo hokw14) rfl rfl rfl rfl (Nat.le_of_ble_eq_true rfl) (Nat.zero_le _) (Nat.zero_le _) (fun f20 hokw20 => ?_)
            refine pg_bipush (pc := 465) (v := (-5)) hC dL_refusesAny_465 (by decide) ?_
            refine pg_icmp_ne (pc := 467) hC 474 dL_refusesAny_467 (by decide)  (fun c68 => False.elim (c68 rfl)) (fun c68 => ?_)
            exact j31 f20 hokw20
        refine pg_if_eq (pc := 369) hC 403 dL_refusesAny_369 (by decide)  (fun c69 => ?_) (fun c69 => ?_)
        · skip
          exact j27 f12 hokw12
        · skip
          have hn0 : 0 < n := hany.resolve_left c69
          have hb0 : ¬ bH (Z 0) 0 = 0 := tEx (e := 0) hn hn12 hn0
          refine pg_aload_n (pc := 372) hC dL_refusesAny_372 5 rfl rfl ?_
          refine pg_iload (pc := 373) hC dL_refusesAny_373 1 rfl ?_
          refine pg_iconst (pc := 375) (v := 0) hC dL_refusesAny_375 (by decide) ?_
          refine pg_bipush (pc := 376) (v := (-6)) hC dL_refusesAny_376 (by decide) ?_
          refine pg_iload (pc := 378) hC dL_refusesAny_378 2 rfl ?_
          refine pg_callVXi (pc := 380) (As := [.int (nI (X % 10)), .int 0, .int (-6), .int (nI (100 + (X % 99)))]) (rest := []) (v2 := (-2)) (Z3 := Z) hC dL_refusesAny_380 (cX4_offer_c l hokw12 n hn hn12 nx kp hnx hnx6 hkp hkp6 (nI (X % 10)) 0 (-6) (nI (100 + (X % 99)))) (rf_off (rf_e4 (tPx hso) hb0 (fun q => absurd rfl q.1) hmm) (by decide)) (cwV 4 hC.2.2.2.2.1 gL_refusesAny_X4_offer rfl rfl rfl (by decide +kernel) ⟨Nat.le_of_ble_eq_true rfl, Nat.le_of_ble_eq_true rfl⟩) (ok_mem hokw12 (by decide)) (ok_Xo hokw12) rfl rfl rfl rfl (Nat.le_of_ble_eq_true rfl) (Nat.zero_le _) (Nat.zero_le _) (fun f21 hokw21 => ?_)
          refine pg_bipush (pc := 383) (v := (-2)) hC dL_refusesAny_383 (by decide) ?_
          refine pg_icmp_ne (pc := 385) hC 474 dL_refusesAny_385 (by decide)  (fun c70 => False.elim (c70 rfl)) (fun c70 => ?_)
          refine pg_aload_n (pc := 388) hC dL_refusesAny_388 5 rfl rfl ?_
          refine pg_iload (pc := 389) hC dL_refusesAny_389 1 rfl ?_
          refine pg_iconst (pc := 391) (v := 0) hC dL_refusesAny_391 (by decide) ?_
          refine pg_iload (pc := 392) hC dL_refusesAny_392 1 rfl ?_
          refine pg_iconst (pc := 394) (v := 5) hC dL_refusesAny_394 (by decide) ?_
          refine pg_callVXi (pc := 395) (As := [.int (nI (X % 10)), .int 0, .int (nI (X % 10)), .int 5]) (rest := []) (v2 := (-2)) (Z3 := Z) hC dL_refusesAny_395 (cX4_offer_c l hokw21 n hn hn12 nx kp hnx hnx6 hkp hkp6 (nI (X % 10)) 0 (nI (X % 10)) 5) (rf_off (rf_e5 (tPx hso) hb0 (fun q => tPx hso q.2) rfl) (by decide)) (cwV 4 hC.2.2.2.2.1 gL_refusesAny_X4_offer rfl rfl rfl (by decide +kernel) ⟨Nat.le_of_ble_eq_true rfl, Nat.le_of_ble_eq_true rfl⟩) (ok_mem hokw21 (by decide)) (ok_Xo hokw21) rfl rfl rfl rfl (Nat.le_of_ble_eq_true rfl) (Nat.zero_le _) (Nat.zero_le _) (fun f22 hokw22 => ?_)
          refine pg_bipush (pc := 398) (v := (-2)) hC dL_refusesAny_398 (by decide) ?_
          refine pg_icmp_ne (pc := 400) hC 474 dL_refusesAny_400 (by decide)  (fun c71 => False.elim (c71 rfl)) (fun c71 => ?_)
          exact j27 f22 hokw22
      refine pg_if_eq (pc := 299) hC 324 dL_refusesAny_299 (by decide)  (fun c72 => ?_) (fun c72 => ?_)
      · skip
        exact j23 f9 hokw9
      · skip
        have hn0 : 0 < n := hany.resolve_left c72
        have hb0 : ¬ bH (Z 0) 0 = 0 := tEx (e := 0) hn hn12 hn0
        refine pg_aload_n (pc := 302) hC dL_refusesAny_302 5 rfl rfl ?_
        refine pg_iconst (pc := 303) (v := 0) hC dL_refusesAny_303 (by decide) ?_
        refine pg_iload_n (pc := 304) hC dL_refusesAny_304 6 rfl rfl ?_
        refine pg_iconst (pc := 305) (v := 2) hC dL_refusesAny_305 (by decide) ?_
        refine pg_irem (pc := 306) (v := nI (X % 2)) hC dL_refusesAny_306 (by decide) (pk_rem (a := X) (d := 2) (by omega) (by omega) (by omega)) ?_
        refine pg_if_ne (pc := 307) hC 314 dL_refusesAny_307 (by decide)  (fun c73 => ?_) (fun c73 => False.elim (absurd ((nI_z (by omega)).mp c73) (by omega)))
        refine pg_bipush (pc := 314) (v := 100) hC dL_refusesAny_314 (by decide) ?_
        refine pg_callVXi (pc := 316) (As := [.int 0, .int 100]) (rest := []) (v2 := (-2)) (Z3 := Z) hC dL_refusesAny_316 (cX4_worth_c l hokw9 n hn hn12 nx kp hnx hnx6 hkp hkp6 0 100) (rf_worth2 hb0 (by decide +kernel)) (cwV 2 hC.2.2.2.2.1 gL_refusesAny_X4_worth rfl rfl rfl (by decide +kernel) ⟨Nat.le_of_ble_eq_true rfl, Nat.le_of_ble_eq_true rfl⟩) (ok_mem hokw9 (by decide)) (ok_Xo hokw9) rfl rfl rfl rfl (Nat.le_of_ble_eq_true rfl) (Nat.zero_le _) (Nat.zero_le _) (fun f23 hokw23 => ?_)
        refine pg_bipush (pc := 319) (v := (-2)) hC dL_refusesAny_319 (by decide) ?_
        refine pg_icmp_ne (pc := 321) hC 474 dL_refusesAny_321 (by decide)  (fun c74 => False.elim (c74 rfl)) (fun c74 => ?_)
        exact j23 f23 hokw23
    refine pg_icmp_ltN (pc := 273) hC 287 dL_refusesAny_273 (by decide) (n) (12) rfl rfl (by omega) (by omega) (fun c75 => ?_) (fun c75 => ?_)
    · skip
      exact j21 f8 hokw8
    · skip
      refine pg_aload_n (pc := 276) hC dL_refusesAny_276 5 rfl rfl ?_
      refine pg_iconst (pc := 277) (v := 0) hC dL_refusesAny_277 (by decide) ?_
      refine pg_iconst (pc := 278) (v := 5) hC dL_refusesAny_278 (by decide) ?_
      refine pg_callVXi (pc := 279) (As := [.int 0, .int 5]) (rest := []) (v2 := (-4)) (Z3 := Z) hC dL_refusesAny_279 (cX4_add_c l hokw8 n hn hn12 nx kp hnx hnx6 hkp hkp6 0 5) (rf_add2 (by omega)) (cwV 2 hC.2.2.2.2.1 gL_refusesAny_X4_add rfl rfl rfl (by decide +kernel) ⟨Nat.le_of_ble_eq_true rfl, Nat.le_of_ble_eq_true rfl⟩) (ok_mem hokw8 (by decide)) (ok_Xo hokw8) rfl rfl rfl rfl (Nat.le_of_ble_eq_true rfl) (Nat.zero_le _) (Nat.zero_le _) (fun f24 hokw24 => ?_)
      refine pg_bipush (pc := 282) (v := (-4)) hC dL_refusesAny_282 (by decide) ?_
      refine pg_icmp_ne (pc := 284) hC 474 dL_refusesAny_284 (by decide)  (fun c76 => False.elim (c76 rfl)) (fun c76 => ?_)
      exact j21 f24 hokw24
  refine pg_if_le (pc := 82) hC 89 dL_refusesAny_82 (by decide)  (fun c77 => ?_) (fun c77 => ?_)
  · skip
    refine pg_iconst (pc := 89) (v := 0) hC dL_refusesAny_89 (by decide) ?_
    refine pg_istore (pc := 90) (vs' := [(6, .int 0), (5, .int (nI (X % 10))), (4, .int (nI (100 + (X % 99)))), (3, .int (nI (n + (X % 99)))), (2, .int (nI (10 + (X % 99)))), (0, .ref (x 12 2)), (1, .int (nI X))]) hC dL_refusesAny_90 (by decide) rfl ?_
    exact j4 0 (Or.inl rfl)
  · skip
    refine pg_iconst (pc := 85) (v := 1) hC dL_refusesAny_85 (by decide) ?_
    refine pg_goto (pc := 86) hC 90 dL_refusesAny_86 (by decide) ?_
    refine pg_istore (pc := 90) (vs' := [(6, .int 1), (5, .int (nI (X % 10))), (4, .int (nI (100 + (X % 99)))), (3, .int (nI (n + (X % 99)))), (2, .int (nI (10 + (X % 99)))), (0, .ref (x 12 2)), (1, .int (nI X))]) hC dL_refusesAny_90 (by decide) rfl ?_
    exact j4 1 (Or.inr (Nat.pos_of_ne_zero (fun q => c77 (by subst q; exact Int32.le_refl _))))
theorem cL_refusesAny_c (l : Launch) {κ : pv_Kt} {L : List Nat} {f : Nat → va_E} {x : Nat → Nat → Nat} {Z : Nat → Nat → Nat → Int32} (hok : pv_ok κ x L f Z) (n K : Nat) (h : IV (Z 0) n K) (hK : K ≤ 100) (nx kp : Nat) (hnx : Z 12 1 0 = nI nx) (hnx6 : nx < 6) (hkp : Z 12 2 0 = nI kp) (hkp6 : kp ≤ 6) (hpl : Z 9 1 0 = 0) (X : Nat) (hX : X < 2 ^ 31)  : pv_Mi l κ yL_refusesAny wsL_refusesAny rmL_refusesAny L f [.ref (x 12 2), .int (nI X)] 0 0 (pv_Ei κ x L (fun r Z1 => r = 1 ∧ RS Z Z1)) := by
  rcases Nat.mod_two_eq_zero_or_one X with hx | hx
  · exact cL_refusesAny_0 l hok n K h hK nx kp hnx hnx6 hkp hkp6 hpl X hX hx
  · exact cL_refusesAny_1 l hok n K h hK nx kp hnx hnx6 hkp hkp6 hpl X hX hx
