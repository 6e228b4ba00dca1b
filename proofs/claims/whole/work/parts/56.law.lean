set_option maxHeartbeats 16000000 in
set_option maxRecDepth 20000 in
theorem law_G {κ : pv_Kt} {p : Program} {l : Launch} {e : Env} {s : State} {m : MethodId} {below : List Frame} {meth : Method} {c : Code} {Q : State → Prop} {rt : Option FieldType} {b N : Nat} {xs : Nat → Int32} (hN : N ≤ 2560) (hX : va_X b N xs s s.heap) (hbl : b < s.heap.size) (hC : pv_C κ p room_1 s m #[Value.ref b] meth c ⟨RL, meth.name, ""⟩ cL_law 4 wsL_law rt (fun q => s.heap.size ≤ q)) (hend : ∀ (cells slots : Nat) (L : List Nat) (f : Nat → va_E) (vs : List (Nat × Value)), cells ≤ 600000 → slots ≤ 7302250 → pv_G κ p l e room_1 s m #[Value.ref b] below meth c Q (fun q => s.heap.size ≤ q) 4 cells slots L f 829 vs [.int 1]) : pv_G κ p l e room_1 s m #[Value.ref b] below meth c Q (fun q => s.heap.size ≤ q) 4 0 0 [] (fun _ => .inr (0, [])) 0 [(0, .ref b)] [] := by
  have hbA : ¬ (fun q : Nat => s.heap.size ≤ q) b := Nat.not_le.mpr hbl
  have hcl : Cond.constantLong RL 82 4294967295 ∈ wsL_law := by decide +kernel
  refine pg_new (pc := 0) (ci := 4) (fs := [.null, .null, .null, .null, .null, .null]) hC dL_law_0 miL_X4 tyX4 tyX4_ok rfl (show Cond.classLink RL 7 RX4 ∈ wsL_law by decide +kernel) (by decide +kernel) (by decide +kernel) (by intro j hj; rcases (show j = 0 ∨ j = 1 ∨ j = 2 ∨ j = 3 ∨ j = 4 ∨ j = 5 by omega) with rfl | rfl | rfl | rfl | rfl | rfl <;> rfl) ⟨Nat.le_of_ble_eq_true rfl, Nat.le_of_ble_eq_true rfl⟩ (fun q1 hq1 => ?_)
  refine pg_dup (pc := 3) hC dL_law_3 rfl ?_
  refine pg_callIv (pc := 4) (As := []) (rest := [.ref q1]) hC dL_law_4 (cX4_init_c l (L := [q1]) List.mem_cons_self va_up_e) (cwI 0 hC.2.2.2.2.1 gL_law_X4_init rfl rfl rfl (hC.2.2.2.2.1 _ (by decide +kernel : Cond.initialized RX4 ∈ wsL_law)) (hC.2.2.2.2.1 _ (by decide +kernel : Cond.methodLink RL 9 yX4_init ∈ wsL_law)) (hC.2.2.2.2.1 _ (by decide +kernel : Cond.instanceMethod yX4_init ∈ wsL_law)) rfl (by decide +kernel) ⟨Nat.le_of_ble_eq_true rfl, Nat.le_of_ble_eq_true rfl⟩) rfl rfl (Nat.le_of_ble_eq_true rfl) ⟨Nat.le_of_ble_eq_true rfl, Nat.le_of_ble_eq_true rfl⟩ (fun u hu => ?_)
  obtain ⟨L2, g2⟩ := u
  obtain ⟨X, h1⟩ := hu
  refine pg_astore_n (pc := 7) (vs' := [(1, .ref q1), (0, .ref b)]) hC dL_law_7 rfl (by decide) rfl ?_
  refine pg_new (pc := 8) (ci := 5) (fs := [.null, .null, .int 0, .null, .null, .null, .int 0, .int 0, .int 0, .int 0, .int 0, .int 0]) hC dL_law_8 miL_X5 tyX5 tyX5_ok rfl (show Cond.classLink RL 10 RX5 ∈ wsL_law by decide +kernel) (by decide +kernel) (by decide +kernel) (by intro j hj; rcases (show j = 0 ∨ j = 1 ∨ j = 2 ∨ j = 3 ∨ j = 4 ∨ j = 5 ∨ j = 6 ∨ j = 7 ∨ j = 8 ∨ j = 9 ∨ j = 10 ∨ j = 11 by omega) with rfl | rfl | rfl | rfl | rfl | rfl | rfl | rfl | rfl | rfl | rfl | rfl <;> rfl) ⟨Nat.le_of_ble_eq_true rfl, Nat.le_of_ble_eq_true rfl⟩ (fun q2 hq2 => ?_)
  refine pg_dup (pc := 11) hC dL_law_11 rfl ?_
  refine pg_callIv (pc := 12) (As := []) (rest := [.ref q2]) hC dL_law_12 (cX5_init_c l (List.mem_append_right _ List.mem_cons_self) va_up_e) (cwI 0 hC.2.2.2.2.1 gL_law_X5_init rfl rfl rfl (hC.2.2.2.2.1 _ (by decide +kernel : Cond.initialized RX5 ∈ wsL_law)) (hC.2.2.2.2.1 _ (by decide +kernel : Cond.methodLink RL 12 yX5_init ∈ wsL_law)) (hC.2.2.2.2.1 _ (by decide +kernel : Cond.instanceMethod yX5_init ∈ wsL_law)) rfl (by decide +kernel) ⟨Nat.le_of_ble_eq_true rfl, Nat.le_of_ble_eq_true rfl⟩) rfl rfl (Nat.le_of_ble_eq_true rfl) ⟨Nat.le_of_ble_eq_true rfl, Nat.le_of_ble_eq_true rfl⟩ (fun u hu => ?_)
  obtain ⟨L3, g3⟩ := u
  obtain ⟨Y, h2⟩ := hu
  refine pg_astore_n (pc := 15) (vs' := [(2, .ref q2), (1, .ref q1), (0, .ref b)]) hC dL_law_15 rfl (by decide) rfl ?_
  refine pg_iconst (pc := 16) (v := 0) hC dL_law_16 (by decide) ?_
  refine pg_istore_n (pc := 17) (vs' := [(3, .int 0), (2, .ref (q2)), (1, .ref (q1)), (0, .ref (b))]) hC dL_law_17 rfl (by decide) rfl ?_
  refine pg_sub (vs' := [(0, .ref (b)), (1, .ref (q1)), (2, .ref (q2)), (3, .int 0)]) [3, 2, 1, 0] rfl ?_
  obtain ⟨n193, n195, nne, hok0⟩ := pv_start h1 hq2 h2
  refine pg_norm n193 (r2 := fun j => some (xSt X Y (1 + j) 1)) (fun j hj => by unfold rowH xSt; rw [if_pos hj, if_neg (by omega)]) ?_
  refine pg_norm ((va_up_ne _ _ (Ne.symm nne)).trans n195) (r2 := fun j => some (xSt X Y (7 + j) 1)) (fun j hj => by unfold rowX xSt; rw [if_pos hj, if_neg (by omega)]) ?_
  have e1 : q1 = xSt X Y 12 2 := (h1.2.2.2.2.2.1).symm
  have e2 : q2 = xSt X Y 11 2 := (h2.2.2.2.2.2.1).symm
  refine pg_vs (vs' := [(0, .ref b), (1, .ref (xSt X Y 12 2)), (2, .ref (xSt X Y 11 2)), (3, .int (nI 0))]) (by rw [← e1, ← e2]; rfl) ?_
  obtain ⟨x, hx⟩ : ∃ z, z = xSt X Y := ⟨_, rfl⟩
  rw [← hx] at hok0 ⊢
  refine pg_loop (pc := 18) (σ := Nat × (Nat → va_E) × (Nat → Nat → Nat → Int32)) (I := fun q => match q with | (i, f, Z) => i ≤ N + 5 ∧ pv_ok κ x L3 f Z ∧ ∃ n nx kp pl : Nat, JI Z n nx kp pl) (μ := fun q => match q with | (i, _, _) => N + 5 - i) (VS := fun q => match q with | (i, _, _) => [(0, .ref b), (1, .ref (x 12 2)), (2, .ref (x 11 2)), (3, .int (nI i))]) (FF := fun q => match q with | (_, f, _) => f) ?_ (0, _, Z00) ⟨Nat.zero_le _, hok0, 0, 0, 0, 0, J_00⟩
  clear hok0 n193 n195 nne
  intro q hI ih
  obtain ⟨i, f, Z⟩ := q
  dsimp only at hI ih ⊢
  obtain ⟨hi, hok, n, nx, kp, pl, hJ⟩ := hI
  have hS := hJ.1
  have hn := hS.2.1.n
  have hn12 := hS.2.1.n12
  have hnx6 := hJ.2.1.1
  have hkp6 := hJ.2.1.2.1
  have hnx := hJ.2.1.2.2.1
  have hkp := hJ.2.1.2.2.2.1
  have hsn := hJ.2.1.2.2.2.2
  have hpl := hJ.2.2.2.2.1
  have hgp := hJ.2.2.2.2.2.1
  have hpl60 := hJ.2.2.2.2.2.2.1
  refine pg_iload_n (pc := 18) hC dL_law_18 3 rfl rfl ?_
  refine pg_aload_n (pc := 19) hC dL_law_19 0 rfl rfl ?_
  refine pg_slen (pc := 20) hC hX hbl hbA dL_law_20 ?_
  refine pg_iconst (pc := 21) (v := 5) hC dL_law_21 (by decide) ?_
  refine pg_isub (pc := 22) (v := nI N - 5) hC dL_law_22 rfl ?_
  refine pg_icmp_gt (pc := 23) hC 828 dL_law_23 (by decide) (fun c => ?_) (fun c => ?_)
  · refine pg_iconst (pc := 828) (v := 1) hC dL_law_828 (by decide) ?_
    exact hend _ _ _ _ _ (by decide) (by decide)
  have h5 : i + 5 ≤ N := law_c c hN (by omega)
  refine pg_aload_n (pc := 26) hC dL_law_26 0 rfl rfl ?_
  refine pg_iload_n (pc := 27) hC dL_law_27 3 rfl rfl ?_
  refine pg_sld (pc := 28) hC hX hbl hbA (i) rfl (by omega) (by omega) dL_law_28 ?_
  refine pg_bipush (pc := 29) (v := 31) hC dL_law_29 (by decide) ?_
  refine pg_iand (pc := 31) (v := (xs i) &&& 31) hC dL_law_31 rfl ?_
  rcases tab_cases ((xs i) &&& 31) 0 21 (by omega) with ⟨j, hjl, hj, hxj⟩ | c1
  · skip
    rcases (show j = 0 ∨ j = 1 ∨ j = 2 ∨ j = 3 ∨ j = 4 ∨ j = 5 ∨ j = 6 ∨ j = 7 ∨ j = 8 ∨ j = 9 ∨ j = 10 ∨ j = 11 ∨ j = 12 ∨ j = 13 ∨ j = 14 ∨ j = 15 ∨ j = 16 ∨ j = 17 ∨ j = 18 ∨ j = 19 ∨ j = 20 ∨ j = 21 by omega) with rfl | rfl | rfl | rfl | rfl | rfl | rfl | rfl | rfl | rfl | rfl | rfl | rfl | rfl | rfl | rfl | rfl | rfl | rfl | rfl | rfl | rfl
    · skip
      have c2 : (xs i) &&& 31 = 0 := hxj
      refine pg_tabIn (pc := 32) hC 136 dL_law_32 (by rw [c2]; decide) (by rw [c2]; decide) (by rw [c2]; rfl) (by decide) ?_
      refine pg_aload_n (pc := 136) hC dL_law_136 1 rfl rfl ?_
      refine pg_aload_n (pc := 137) hC dL_law_137 0 rfl rfl ?_
      refine pg_iload_n (pc := 138) hC dL_law_138 3 rfl rfl ?_
      refine pg_iconst (pc := 139) (v := 1) hC dL_law_139 (by decide) ?_
      refine pg_iadd (pc := 140) (v := nI (i + 1)) hC dL_law_140 (nI_add (i) (1)) ?_
      refine pg_sld (pc := 141) hC hX hbl hbA (i + 1) rfl (by omega) (by omega) dL_law_141 ?_
      refine pg_aload_n (pc := 142) hC dL_law_142 0 rfl rfl ?_
      refine pg_iload_n (pc := 143) hC dL_law_143 3 rfl rfl ?_
      refine pg_iconst (pc := 144) (v := 2) hC dL_law_144 (by decide) ?_
      refine pg_iadd (pc := 145) (v := nI (i + 2)) hC dL_law_145 (nI_add (i) (2)) ?_
      refine pg_sld (pc := 146) hC hX hbl hbA (i + 2) rfl (by omega) (by omega) dL_law_146 ?_
      refine pg_callVWi (pc := 147) (As := [.int (xs (i + 1)), .int (xs (i + 2))]) (rest := []) hC dL_law_147 (cX4_set_c l hok nx kp hnx hnx6 hkp hkp6 (xs (i + 1)) (xs (i + 2))) (cwV 2 hC.2.2.2.2.1 gL_law_X4_set rfl rfl rfl (by decide +kernel) ⟨Nat.le_of_ble_eq_true rfl, Nat.le_of_ble_eq_true rfl⟩) (ok_mem hok (by decide)) (ok_Xo hok) rfl rfl rfl rfl (Nat.le_of_ble_eq_true rfl) (Nat.le_of_ble_eq_true rfl) (Nat.le_of_ble_eq_true rfl) (fun fc hokc => ?_)
      have hokr : pv_ok κ x L3 fc (va_up (tSetZ Z nx kp (xs (i + 1)) (xs (i + 2))) 11 (Z 11)) := by have q := ogI hokc 11; rw [(J_set (st := (xs (i + 1))) (v := (xs (i + 2))) hJ).1] at q; exact q
      refine pg_aload_n (pc := 150) hC dL_law_150 2 rfl rfl ?_
      refine pg_aload_n (pc := 151) hC dL_law_151 0 rfl rfl ?_
      refine pg_iload_n (pc := 152) hC dL_law_152 3 rfl rfl ?_
      refine pg_iconst (pc := 153) (v := 1) hC dL_law_153 (by decide) ?_
      refine pg_iadd (pc := 154) (v := nI (i + 1)) hC dL_law_154 (nI_add (i) (1)) ?_
      refine pg_sld (pc := 155) hC hX hbl hbA (i + 1) rfl (by omega) (by omega) dL_law_155 ?_
      refine pg_aload_n (pc := 156) hC dL_law_156 0 rfl rfl ?_
      refine pg_iload_n (pc := 157) hC dL_law_157 3 rfl rfl ?_
      refine pg_iconst (pc := 158) (v := 2) hC dL_law_158 (by decide) ?_
      refine pg_iadd (pc := 159) (v := nI (i + 2)) hC dL_law_159 (nI_add (i) (2)) ?_
      refine pg_sld (pc := 160) hC hX hbl hbA (i + 2) rfl (by omega) (by omega) dL_law_160 ?_
      refine pg_callVEi (pc := 161) (As := [.int (xs (i + 1)), .int (xs (i + 2))]) (rest := [.int (tSet (Z 0) (xs (i + 1)) (xs (i + 2)))]) hC dL_law_161 (cX5_set_c l hokr hS kp hsn hkp6 (xs (i + 1)) (xs (i + 2))) (cwV 2 hC.2.2.2.2.1 gL_law_X5_set rfl rfl rfl (by decide +kernel) ⟨Nat.le_of_ble_eq_true rfl, Nat.le_of_ble_eq_true rfl⟩) (ok_mem hokr (by decide)) (ok_Mo hokr) rfl rfl rfl rfl (Nat.le_of_ble_eq_true rfl) (Nat.le_of_ble_eq_true rfl) (Nat.le_of_ble_eq_true rfl) (fun r fd Zd hokd hph => ?_)
      obtain ⟨hv, g2, rfl, hm⟩ := hph
      refine pg_icmp_eq (pc := 164) hC 822 dL_law_164 (by decide) (fun _ => ?_) (fun c3 => False.elim (c3 hv.symm))
      refine pg_iinc (pc := 822) (v := nI (i + 5)) (vs' := [(3, .int (nI (i + 5))), (0, .ref (b)), (1, .ref (x 12 2)), (2, .ref (x 11 2))]) hC dL_law_822 3 rfl (nI_add i 5) (by decide) rfl ?_
      refine pg_goto (pc := 825) hC 18 dL_law_825 (by decide) ?_
      refine pg_sub (vs' := [(0, .ref (b)), (1, .ref (x 12 2)), (2, .ref (x 11 2)), (3, .int (nI (i + 5)))]) [1, 2, 3, 0] rfl ?_
      exact ih (i + 5, fd, va_up (tSetZ Z nx kp (xs (i + 1)) (xs (i + 2))) 11 g2) ⟨by omega, hokd, (let ⟨n1, x1, k1, h⟩ := (J_set (st := (xs (i + 1))) (v := (xs (i + 2))) hJ).2 g2 hm; ⟨n1, x1, k1, pl, h⟩)⟩ (show N + 5 - (i + 5) < N + 5 - i by omega)
    · skip
      have c4 : (xs i) &&& 31 = 1 := hxj
      refine pg_tabIn (pc := 32) hC 169 dL_law_32 (by rw [c4]; decide) (by rw [c4]; decide) (by rw [c4]; rfl) (by decide) ?_
      refine pg_aload_n (pc := 169) hC dL_law_169 1 rfl rfl ?_
      refine pg_aload_n (pc := 170) hC dL_law_170 0 rfl rfl ?_
      refine pg_iload_n (pc := 171) hC dL_law_171 3 rfl rfl ?_
      refine pg_iconst (pc := 172) (v := 1) hC dL_law_172 (by decide) ?_
      refine pg_iadd (pc := 173) (v := nI (i + 1)) hC dL_law_173 (nI_add (i) (1)) ?_
      refine pg_sld (pc := 174) hC hX hbl hbA (i + 1) rfl (by omega) (by omega) dL_law_174 ?_
      refine pg_aload_n (pc := 175) hC dL_law_175 0 rfl rfl ?_
      refine pg_iload_n (pc := 176) hC dL_law_176 3 rfl rfl ?_
      refine pg_iconst (pc := 177) (v := 2) hC dL_law_177 (by decide) ?_
      refine pg_iadd (pc := 178) (v := nI (i + 2)) hC dL_law_178 (nI_add (i) (2)) ?_
      refine pg_sld (pc := 179) hC hX hbl hbA (i + 2) rfl (by omega) (by omega) dL_law_179 ?_
      refine pg_callVWi (pc := 180) (As := [.int (xs (i + 1)), .int (xs (i + 2))]) (rest := []) hC dL_law_180 (cX4_add_c l hok n hn hn12 nx kp hnx hnx6 hkp hkp6 (xs (i + 1)) (xs (i + 2))) (cwV 2 hC.2.2.2.2.1 gL_law_X4_add rfl rfl rfl (by decide +kernel) ⟨Nat.le_of_ble_eq_true rfl, Nat.le_of_ble_eq_true rfl⟩) (ok_mem hok (by decide)) (ok_Xo hok) rfl rfl rfl rfl (Nat.le_of_ble_eq_true rfl) (Nat.le_of_ble_eq_true rfl) (Nat.le_of_ble_eq_true rfl) (fun fc hokc => ?_)
      have hokr : pv_ok κ x L3 fc (va_up (tAddZ Z nx kp n (xs (i + 1)) (xs (i + 2))) 11 (Z 11)) := by have q := ogI hokc 11; rw [(J_add (kd := (xs (i + 1))) (wh := (xs (i + 2))) hJ).1] at q; exact q
      refine pg_aload_n (pc := 183) hC dL_law_183 2 rfl rfl ?_
      refine pg_aload_n (pc := 184) hC dL_law_184 0 rfl rfl ?_
      refine pg_iload_n (pc := 185) hC dL_law_185 3 rfl rfl ?_
      refine pg_iconst (pc := 186) (v := 1) hC dL_law_186 (by decide) ?_
      refine pg_iadd (pc := 187) (v := nI (i + 1)) hC dL_law_187 (nI_add (i) (1)) ?_
      refine pg_sld (pc := 188) hC hX hbl hbA (i + 1) rfl (by omega) (by omega) dL_law_188 ?_
      refine pg_aload_n (pc := 189) hC dL_law_189 0 rfl rfl ?_
      refine pg_iload_n (pc := 190) hC dL_law_190 3 rfl rfl ?_
      refine pg_iconst (pc := 191) (v := 2) hC dL_law_191 (by decide) ?_
      refine pg_iadd (pc := 192) (v := nI (i + 2)) hC dL_law_192 (nI_add (i) (2)) ?_
      refine pg_sld (pc := 193) hC hX hbl hbA (i + 2) rfl (by omega) (by omega) dL_law_193 ?_
      refine pg_callVEi (pc := 194) (As := [.int (xs (i + 1)), .int (xs (i + 2))]) (rest := [.int (tAdd n (xs (i + 1)) (xs (i + 2)))]) hC dL_law_194 (cX5_add_c l hokr hS kp hsn hkp6 (xs (i + 1)) (xs (i + 2))) (cwV 2 hC.2.2.2.2.1 gL_law_X5_add rfl rfl rfl (by decide +kernel) ⟨Nat.le_of_ble_eq_true rfl, Nat.le_of_ble_eq_true rfl⟩) (ok_mem hokr (by decide)) (ok_Mo hokr) rfl rfl rfl rfl (Nat.le_of_ble_eq_true rfl) (Nat.le_of_ble_eq_true rfl) (Nat.le_of_ble_eq_true rfl) (fun r fd Zd hokd hph => ?_)
      obtain ⟨hv, g2, rfl, hm⟩ := hph
      refine pg_icmp_eq (pc := 197) hC 822 dL_law_197 (by decide) (fun _ => ?_) (fun c5 => False.elim (c5 hv.symm))
      refine pg_iinc (pc := 822) (v := nI (i + 5)) (vs' := [(3, .int (nI (i + 5))), (0, .ref (b)), (1, .ref (x 12 2)), (2, .ref (x 11 2))]) hC dL_law_822 3 rfl (nI_add i 5) (by decide) rfl ?_
      refine pg_goto (pc := 825) hC 18 dL_law_825 (by decide) ?_
      refine pg_sub (vs' := [(0, .ref (b)), (1, .ref (x 12 2)), (2, .ref (x 11 2)), (3, .int (nI (i + 5)))]) [1, 2, 3, 0] rfl ?_
      exact ih (i + 5, fd, va_up (tAddZ Z nx kp n (xs (i + 1)) (xs (i + 2))) 11 g2) ⟨by omega, hokd, (let ⟨n1, x1, k1, h⟩ := (J_add (kd := (xs (i + 1))) (wh := (xs (i + 2))) hJ).2 g2 hm; ⟨n1, x1, k1, pl, h⟩)⟩ (show N + 5 - (i + 5) < N + 5 - i by omega)
    · skip
      have c6 : (xs i) &&& 31 = 2 := hxj
      refine pg_tabIn (pc := 32) hC 202 dL_law_32 (by rw [c6]; decide) (by rw [c6]; decide) (by rw [c6]; rfl) (by decide) ?_
      refine pg_aload_n (pc := 202) hC dL_law_202 1 rfl rfl ?_
      refine pg_aload_n (pc := 203) hC dL_law_203 0 rfl rfl ?_
      refine pg_iload_n (pc := 204) hC dL_law_204 3 rfl rfl ?_
      refine pg_iconst (pc := 205) (v := 1) hC dL_law_205 (by decide) ?_
      refine pg_iadd (pc := 206) (v := nI (i + 1)) hC dL_law_206 (nI_add (i) (1)) ?_
      refine pg_sld (pc := 207) hC hX hbl hbA (i + 1) rfl (by omega) (by omega) dL_law_207 ?_
      refine pg_aload_n (pc := 208) hC dL_law_208 0 rfl rfl ?_
      refine pg_iload_n (pc := 209) hC dL_law_209 3 rfl rfl ?_
      refine pg_iconst (pc := 210) (v := 2) hC dL_law_210 (by decide) ?_
      refine pg_iadd (pc := 211) (v := nI (i + 2)) hC dL_law_211 (nI_add (i) (2)) ?_
      refine pg_sld (pc := 212) hC hX hbl hbA (i + 2) rfl (by omega) (by omega) dL_law_212 ?_
      refine pg_callVWi (pc := 213) (As := [.int (xs (i + 1)), .int (xs (i + 2))]) (rest := []) hC dL_law_213 (cX4_worth_c l hok n hn hn12 nx kp hnx hnx6 hkp hkp6 (xs (i + 1)) (xs (i + 2))) (cwV 2 hC.2.2.2.2.1 gL_law_X4_worth rfl rfl rfl (by decide +kernel) ⟨Nat.le_of_ble_eq_true rfl, Nat.le_of_ble_eq_true rfl⟩) (ok_mem hok (by decide)) (ok_Xo hok) rfl rfl rfl rfl (Nat.le_of_ble_eq_true rfl) (Nat.le_of_ble_eq_true rfl) (Nat.le_of_ble_eq_true rfl) (fun fc hokc => ?_)
      have hokr : pv_ok κ x L3 fc (va_up (tWorthZ Z nx kp (xs (i + 1)) (xs (i + 2))) 11 (Z 11)) := by have q := ogI hokc 11; rw [(J_worth (ee := (xs (i + 1))) (wh := (xs (i + 2))) hJ).1] at q; exact q
      refine pg_aload_n (pc := 216) hC dL_law_216 2 rfl rfl ?_
      refine pg_aload_n (pc := 217) hC dL_law_217 0 rfl rfl ?_
      refine pg_iload_n (pc := 218) hC dL_law_218 3 rfl rfl ?_
      refine pg_iconst (pc := 219) (v := 1) hC dL_law_219 (by decide) ?_
      refine pg_iadd (pc := 220) (v := nI (i + 1)) hC dL_law_220 (nI_add (i) (1)) ?_
      refine pg_sld (pc := 221) hC hX hbl hbA (i + 1) rfl (by omega) (by omega) dL_law_221 ?_
      refine pg_aload_n (pc := 222) hC dL_law_222 0 rfl rfl ?_
      refine pg_iload_n (pc := 223) hC dL_law_223 3 rfl rfl ?_
      refine pg_iconst (pc := 224) (v := 2) hC dL_law_224 (by decide) ?_
      refine pg_iadd (pc := 225) (v := nI (i + 2)) hC dL_law_225 (nI_add (i) (2)) ?_
      refine pg_sld (pc := 226) hC hX hbl hbA (i + 2) rfl (by omega) (by omega) dL_law_226 ?_
      refine pg_callVEi (pc := 227) (As := [.int (xs (i + 1)), .int (xs (i + 2))]) (rest := [.int (tWorth (Z 0) (xs (i + 1)) (xs (i + 2)))]) hC dL_law_227 (cX5_worth_c l hokr hS kp hsn hkp6 (xs (i + 1)) (xs (i + 2))) (cwV 2 hC.2.2.2.2.1 gL_law_X5_worth rfl rfl rfl (by decide +kernel) ⟨Nat.le_of_ble_eq_true rfl, Nat.le_of_ble_eq_true rfl⟩) (ok_mem hokr (by decide)) (ok_Mo hokr) rfl rfl rfl rfl (Nat.le_of_ble_eq_true rfl) (Nat.le_of_ble_eq_true rfl) (Nat.le_of_ble_eq_true rfl) (fun r fd Zd hokd hph => ?_)
      obtain ⟨hv, g2, rfl, hm⟩ := hph
      refine pg_icmp_eq (pc := 230) hC 822 dL_law_230 (by decide) (fun _ => ?_) (fun c7 => False.elim (c7 hv.symm))
      refine pg_iinc (pc := 822) (v := nI (i + 5)) (vs' := [(3, .int (nI (i + 5))), (0, .ref (b)), (1, .ref (x 12 2)), (2, .ref (x 11 2))]) hC dL_law_822 3 rfl (nI_add i 5) (by decide) rfl ?_
      refine pg_goto (pc := 825) hC 18 dL_law_825 (by decide) ?_
      refine pg_sub (vs' := [(0, .ref (b)), (1, .ref (x 12 2)), (2, .ref (x 11 2)), (3, .int (nI (i + 5)))]) [1, 2, 3, 0] rfl ?_
      exact ih (i + 5, fd, va_up (tWorthZ Z nx kp (xs (i + 1)) (xs (i + 2))) 11 g2) ⟨by omega, hokd, (let ⟨n1, x1, k1, h⟩ := (J_worth (ee := (xs (i + 1))) (wh := (xs (i + 2))) hJ).2 g2 hm; ⟨n1, x1, k1, pl, h⟩)⟩ (show N + 5 - (i + 5) < N + 5 - i by omega)
    · skip
      have c8 : (xs i) &&& 31 = 3 := hxj
      refine pg_tabIn (pc := 32) hC 235 dL_law_32 (by rw [c8]; decide) (by rw [c8]; decide) (by rw [c8]; rfl) (by decide) ?_
      refine pg_aload_n (pc := 235) hC dL_law_235 1 rfl rfl ?_
      refine pg_aload_n (pc := 236) hC dL_law_236 0 rfl rfl ?_
      refine pg_iload_n (pc := 237) hC dL_law_237 3 rfl rfl ?_
      refine pg_iconst (pc := 238) (v := 1) hC dL_law_238 (by decide) ?_
      refine pg_iadd (pc := 239) (v := nI (i + 1)) hC dL_law_239 (nI_add (i) (1)) ?_
      refine pg_sld (pc := 240) hC hX hbl hbA (i + 1) rfl (by omega) (by omega) dL_law_240 ?_
      refine pg_aload_n (pc := 241) hC dL_law_241 0 rfl rfl ?_
      refine pg_iload_n (pc := 242) hC dL_law_242 3 rfl rfl ?_
      refine pg_iconst (pc := 243) (v := 2) hC dL_law_243 (by decide) ?_
      refine pg_iadd (pc := 244) (v := nI (i + 2)) hC dL_law_244 (nI_add (i) (2)) ?_
      refine pg_sld (pc := 245) hC hX hbl hbA (i + 2) rfl (by omega) (by omega) dL_law_245 ?_
      refine pg_aload_n (pc := 246) hC dL_law_246 0 rfl rfl ?_
      refine pg_iload_n (pc := 247) hC dL_law_247 3 rfl rfl ?_
      refine pg_iconst (pc := 248) (v := 3) hC dL_law_248 (by decide) ?_
      refine pg_iadd (pc := 249) (v := nI (i + 3)) hC dL_law_249 (nI_add (i) (3)) ?_
      refine pg_sld (pc := 250) hC hX hbl hbA (i + 3) rfl (by omega) (by omega) dL_law_250 ?_
      refine pg_aload_n (pc := 251) hC dL_law_251 0 rfl rfl ?_
      refine pg_iload_n (pc := 252) hC dL_law_252 3 rfl rfl ?_
      refine pg_iconst (pc := 253) (v := 4) hC dL_law_253 (by decide) ?_
      refine pg_iadd (pc := 254) (v := nI (i + 4)) hC dL_law_254 (nI_add (i) (4)) ?_
      refine pg_sld (pc := 255) hC hX hbl hbA (i + 4) rfl (by omega) (by omega) dL_law_255 ?_
      refine pg_callVWi (pc := 256) (As := [.int (xs (i + 1)), .int (xs (i + 2)), .int (xs (i + 3)), .int (xs (i + 4))]) (rest := []) hC dL_law_256 (cX4_offer_c l hok n hn hn12 nx kp hnx hnx6 hkp hkp6 (xs (i + 1)) (xs (i + 2)) (xs (i + 3)) (xs (i + 4))) (cwV 4 hC.2.2.2.2.1 gL_law_X4_offer rfl rfl rfl (by decide +kernel) ⟨Nat.le_of_ble_eq_true rfl, Nat.le_of_ble_eq_true rfl⟩) (ok_mem hok (by decide)) (ok_Xo hok) rfl rfl rfl rfl (Nat.le_of_ble_eq_true rfl) (Nat.le_of_ble_eq_true rfl) (Nat.le_of_ble_eq_true rfl) (fun fc hokc => ?_)
      have hokr : pv_ok κ x L3 fc (va_up (tOfferZ Z nx kp (xs (i + 1)) (xs (i + 2)) (xs (i + 3)) (xs (i + 4))) 11 (Z 11)) := by have q := ogI hokc 11; rw [(J_offer (pp := (xs (i + 1))) (ee := (xs (i + 2))) (wt := (xs (i + 3))) (mn := (xs (i + 4))) hJ).1] at q; exact q
      refine pg_aload_n (pc := 259) hC dL_law_259 2 rfl rfl ?_
      refine pg_aload_n (pc := 260) hC dL_law_260 0 rfl rfl ?_
      refine pg_iload_n (pc := 261) hC dL_law_261 3 rfl rfl ?_
      refine pg_iconst (pc := 262) (v := 1) hC dL_law_262 (by decide) ?_
      refine pg_iadd (pc := 263) (v := nI (i + 1)) hC dL_law_263 (nI_add (i) (1)) ?_
      refine pg_sld (pc := 264) hC hX hbl hbA (i + 1) rfl (by omega) (by omega) dL_law_264 ?_
      refine pg_aload_n (pc := 265) hC dL_law_265 0 rfl rfl ?_
      refine pg_iload_n (pc := 266) hC dL_law_266 3 rfl rfl ?_
      refine pg_iconst (pc := 267) (v := 2) hC dL_law_267 (by decide) ?_
      refine pg_iadd (pc := 268) (v := nI (i + 2)) hC dL_law_268 (nI_add (i) (2)) ?_
      refine pg_sld (pc := 269) hC hX hbl hbA (i + 2) rfl (by omega) (by omega) dL_law_269 ?_
      refine pg_aload_n (pc := 270) hC dL_law_270 0 rfl rfl ?_
      refine pg_iload_n (pc := 271) hC dL_law_271 3 rfl rfl ?_
      refine pg_iconst (pc := 272) (v := 3) hC dL_law_272 (by decide) ?_
      refine pg_iadd (pc := 273) (v := nI (i + 3)) hC dL_law_273 (nI_add (i) (3)) ?_
      refine pg_sld (pc := 274) hC hX hbl hbA (i + 3) rfl (by omega) (by omega) dL_law_274 ?_
      refine pg_aload_n (pc := 275) hC dL_law_275 0 rfl rfl ?_
      refine pg_iload_n (pc := 276) hC dL_law_276 3 rfl rfl ?_
      refine pg_iconst (pc := 277) (v := 4) hC dL_law_277 (by decide) ?_
      refine pg_iadd (pc := 278) (v := nI (i + 4)) hC dL_law_278 (nI_add (i) (4)) ?_
      refine pg_sld (pc := 279) hC hX hbl hbA (i + 4) rfl (by omega) (by omega) dL_law_279 ?_
      refine pg_callVEi (pc := 280) (As := [.int (xs (i + 1)), .int (xs (i + 2)), .int (xs (i + 3)), .int (xs (i + 4))]) (rest := [.int (tWhy (Z 0) (xs (i + 1)) (xs (i + 2)) (xs (i + 3)) (xs (i + 4)))]) hC dL_law_280 (cX5_offer_c l hokr hS kp hsn hkp6 (xs (i + 1)) (xs (i + 2)) (xs (i + 3)) (xs (i + 4))) (cwV 4 hC.2.2.2.2.1 gL_law_X5_offer rfl rfl rfl (by decide +kernel) ⟨Nat.le_of_ble_eq_true rfl, Nat.le_of_ble_eq_true rfl⟩) (ok_mem hokr (by decide)) (ok_Mo hokr) rfl rfl rfl rfl (Nat.le_of_ble_eq_true rfl) (Nat.le_of_ble_eq_true rfl) (Nat.le_of_ble_eq_true rfl) (fun r fd Zd hokd hph => ?_)
      obtain ⟨hv, g2, rfl, hm⟩ := hph
      refine pg_icmp_eq (pc := 283) hC 822 dL_law_283 (by decide) (fun _ => ?_) (fun c9 => False.elim (c9 hv.symm))
      refine pg_iinc (pc := 822) (v := nI (i + 5)) (vs' := [(3, .int (nI (i + 5))), (0, .ref (b)), (1, .ref (x 12 2)), (2, .ref (x 11 2))]) hC dL_law_822 3 rfl (nI_add i 5) (by decide) rfl ?_
      refine pg_goto (pc := 825) hC 18 dL_law_825 (by decide) ?_
      refine pg_sub (vs' := [(0, .ref (b)), (1, .ref (x 12 2)), (2, .ref (x 11 2)), (3, .int (nI (i + 5)))]) [1, 2, 3, 0] rfl ?_
      exact ih (i + 5, fd, va_up (tOfferZ Z nx kp (xs (i + 1)) (xs (i + 2)) (xs (i + 3)) (xs (i + 4))) 11 g2) ⟨by omega, hokd, (let ⟨n1, x1, k1, h⟩ := (J_offer (pp := (xs (i + 1))) (ee := (xs (i + 2))) (wt := (xs (i + 3))) (mn := (xs (i + 4))) hJ).2 g2 hm; ⟨n1, x1, k1, pl, h⟩)⟩ (show N + 5 - (i + 5) < N + 5 - i by omega)
    · skip
      have c10 : (xs i) &&& 31 = 4 := hxj
      refine pg_tabIn (pc := 32) hC 288 dL_law_32 (by rw [c10]; decide) (by rw [c10]; decide) (by rw [c10]; rfl) (by decide) ?_
      refine pg_aload_n (pc := 288) hC dL_law_288 1 rfl rfl ?_
      refine pg_aload_n (pc := 289) hC dL_law_289 0 rfl rfl ?_
      refine pg_iload_n (pc := 290) hC dL_law_290 3 rfl rfl ?_
      refine pg_iconst (pc := 291) (v := 1) hC dL_law_291 (by decide) ?_
      refine pg_iadd (pc := 292) (v := nI (i + 1)) hC dL_law_292 (nI_add (i) (1)) ?_
      refine pg_sld (pc := 293) hC hX hbl hbA (i + 1) rfl (by omega) (by omega) dL_law_293 ?_
      refine pg_aload_n (pc := 294) hC dL_law_294 0 rfl rfl ?_
      refine pg_iload_n (pc := 295) hC dL_law_295 3 rfl rfl ?_
      refine pg_iconst (pc := 296) (v := 2) hC dL_law_296 (by decide) ?_
      refine pg_iadd (pc := 297) (v := nI (i + 2)) hC dL_law_297 (nI_add (i) (2)) ?_
      refine pg_sld (pc := 298) hC hX hbl hbA (i + 2) rfl (by omega) (by omega) dL_law_298 ?_
      refine pg_callVWi (pc := 299) (As := [.int (xs (i + 1)), .int (xs (i + 2))]) (rest := []) hC dL_law_299 (cX4_pay_c l hok nx kp hnx hnx6 hkp hkp6 (xs (i + 1)) (xs (i + 2))) (cwV 2 hC.2.2.2.2.1 gL_law_X4_pay rfl rfl rfl (by decide +kernel) ⟨Nat.le_of_ble_eq_true rfl, Nat.le_of_ble_eq_true rfl⟩) (ok_mem hok (by decide)) (ok_Xo hok) rfl rfl rfl rfl (Nat.le_of_ble_eq_true rfl) (Nat.le_of_ble_eq_true rfl) (Nat.le_of_ble_eq_true rfl) (fun fc hokc => ?_)
      have hokr : pv_ok κ x L3 fc (va_up (tPayZ Z nx kp (xs (i + 1)) (xs (i + 2))) 11 (Z 11)) := by have q := ogI hokc 11; rw [(J_pay (pp := (xs (i + 1))) (pc := (xs (i + 2))) hJ).1] at q; exact q
      refine pg_aload_n (pc := 302) hC dL_law_302 2 rfl rfl ?_
      refine pg_aload_n (pc := 303) hC dL_law_303 0 rfl rfl ?_
      refine pg_iload_n (pc := 304) hC dL_law_304 3 rfl rfl ?_
      refine pg_iconst (pc := 305) (v := 1) hC dL_law_305 (by decide) ?_
      refine pg_iadd (pc := 306) (v := nI (i + 1)) hC dL_law_306 (nI_add (i) (1)) ?_
      refine pg_sld (pc := 307) hC hX hbl hbA (i + 1) rfl (by omega) (by omega) dL_law_307 ?_
      refine pg_aload_n (pc := 308) hC dL_law_308 0 rfl rfl ?_
      refine pg_iload_n (pc := 309) hC dL_law_309 3 rfl rfl ?_
      refine pg_iconst (pc := 310) (v := 2) hC dL_law_310 (by decide) ?_
      refine pg_iadd (pc := 311) (v := nI (i + 2)) hC dL_law_311 (nI_add (i) (2)) ?_
      refine pg_sld (pc := 312) hC hX hbl hbA (i + 2) rfl (by omega) (by omega) dL_law_312 ?_
      refine pg_callVEi (pc := 313) (As := [.int (xs (i + 1)), .int (xs (i + 2))]) (rest := [.int (tPay (Z 0) (xs (i + 1)) (xs (i + 2)))]) hC dL_law_313 (cX5_pay_c l hokr hS kp hsn hkp6 (xs (i + 1)) (xs (i + 2))) (cwV 2 hC.2.2.2.2.1 gL_law_X5_pay rfl rfl rfl (by decide +kernel) ⟨Nat.le_of_ble_eq_true rfl, Nat.le_of_ble_eq_true rfl⟩) (ok_mem hokr (by decide)) (ok_Mo hokr) rfl rfl rfl rfl (Nat.le_of_ble_eq_true rfl) (Nat.le_of_ble_eq_true rfl) (Nat.le_of_ble_eq_true rfl) (fun r fd Zd hokd hph => ?_)
      obtain ⟨hv, g2, rfl, hm⟩ := hph
      refine pg_icmp_eq (pc := 316) hC 822 dL_law_316 (by decide) (fun _ => ?_) (fun c11 => False.elim (c11 hv.symm))
      refine pg_iinc (pc := 822) (v := nI (i + 5)) (vs' := [(3, .int (nI (i + 5))), (0, .ref (b)), (1, .ref (x 12 2)), (2, .ref (x 11 2))]) hC dL_law_822 3 rfl (nI_add i 5) (by decide) rfl ?_
      refine pg_goto (pc := 825) hC 18 dL_law_825 (by decide) ?_
      refine pg_sub (vs' := [(0, .ref (b)), (1, .ref (x 12 2)), (2, .ref (x 11 2)), (3, .int (nI (i + 5)))]) [1, 2, 3, 0] rfl ?_
      exact ih (i + 5, fd, va_up (tPayZ Z nx kp (xs (i + 1)) (xs (i + 2))) 11 g2) ⟨by omega, hokd, (let ⟨n1, x1, k1, h⟩ := (J_pay (pp := (xs (i + 1))) (pc := (xs (i + 2))) hJ).2 g2 hm; ⟨n1, x1, k1, pl, h⟩)⟩ (show N + 5 - (i + 5) < N + 5 - i by omega)
    · skip
      have c12 : (xs i) &&& 31 = 5 := hxj
      refine pg_tabIn (pc := 32) hC 321 dL_law_32 (by rw [c12]; decide) (by rw [c12]; decide) (by rw [c12]; rfl) (by decide) ?_
      refine pg_aload_n (pc := 321) hC dL_law_321 1 rfl rfl ?_
      refine pg_callVWi (pc := 322) (As := []) (rest := []) hC dL_law_322 (cX4_endTerm_c l hok nx kp hnx hnx6 hkp hkp6 ) (cwV 0 hC.2.2.2.2.1 gL_law_X4_endTerm rfl rfl rfl (by decide +kernel) ⟨Nat.le_of_ble_eq_true rfl, Nat.le_of_ble_eq_true rfl⟩) (ok_mem hok (by decide)) (ok_Xo hok) rfl rfl rfl rfl (Nat.le_of_ble_eq_true rfl) (Nat.le_of_ble_eq_true rfl) (Nat.le_of_ble_eq_true rfl) (fun fc hokc => ?_)
      have hokr : pv_ok κ x L3 fc (va_up (tEndZ Z nx kp) 11 (Z 11)) := by have q := ogI hokc 11; rw [(J_endTerm hJ).1] at q; exact q
      refine pg_aload_n (pc := 325) hC dL_law_325 2 rfl rfl ?_
      refine pg_callVEi (pc := 326) (As := []) (rest := [.int (tEnd (Z 0) )]) hC dL_law_326 (cX5_endTerm_c l hokr hS kp hsn hkp6 ) (cwV 0 hC.2.2.2.2.1 gL_law_X5_endTerm rfl rfl rfl (by decide +kernel) ⟨Nat.le_of_ble_eq_true rfl, Nat.le_of_ble_eq_true rfl⟩) (ok_mem hokr (by decide)) (ok_Mo hokr) rfl rfl rfl rfl (Nat.le_of_ble_eq_true rfl) (Nat.le_of_ble_eq_true rfl) (Nat.le_of_ble_eq_true rfl) (fun r fd Zd hokd hph => ?_)
      obtain ⟨hv, g2, rfl, hm⟩ := hph
      refine pg_icmp_eq (pc := 329) hC 822 dL_law_329 (by decide) (fun _ => ?_) (fun c13 => False.elim (c13 hv.symm))
      refine pg_iinc (pc := 822) (v := nI (i + 5)) (vs' := [(3, .int (nI (i + 5))), (0, .ref (b)), (1, .ref (x 12 2)), (2, .ref (x 11 2))]) hC dL_law_822 3 rfl (nI_add i 5) (by decide) rfl ?_
      refine pg_goto (pc := 825) hC 18 dL_law_825 (by decide) ?_
      refine pg_sub (vs' := [(0, .ref (b)), (1, .ref (x 12 2)), (2, .ref (x 11 2)), (3, .int (nI (i + 5)))]) [1, 2, 3, 0] rfl ?_
      exact ih (i + 5, fd, va_up (tEndZ Z nx kp) 11 g2) ⟨by omega, hokd, (let ⟨n1, x1, k1, h⟩ := (J_endTerm hJ).2 g2 hm; ⟨n1, x1, k1, pl, h⟩)⟩ (show N + 5 - (i + 5) < N + 5 - i by omega)
    · skip
      have c14 : (xs i) &&& 31 = 6 := hxj
      refine pg_tabIn (pc := 32) hC 334 dL_law_32 (by rw [c14]; decide) (by rw [c14]; decide) (by rw [c14]; rfl) (by decide) ?_
      refine pg_aload_n (pc := 334) hC dL_law_334 1 rfl rfl ?_
      refine pg_callVWi (pc := 335) (As := []) (rest := []) hC dL_law_335 (cX4_read_c l hok nx kp hnx hnx6 hkp hkp6 pl hpl hpl60 ) (cwV 0 hC.2.2.2.2.1 gL_law_X4_read rfl rfl rfl (by decide +kernel) ⟨Nat.le_of_ble_eq_true rfl, Nat.le_of_ble_eq_true rfl⟩) (ok_mem hok (by decide)) (ok_Xo hok) rfl rfl rfl rfl (Nat.le_of_ble_eq_true rfl) (Nat.le_of_ble_eq_true rfl) (Nat.le_of_ble_eq_true rfl) (fun fc hokc => ?_)
      have hokr : pv_ok κ x L3 fc (va_up (tReadZ Z nx kp pl) 11 (Z 11)) := by have q := ogI hokc 11; rw [tReadZ_11 hJ] at q; exact q
      refine pg_aload_n (pc := 338) hC dL_law_338 2 rfl rfl ?_
      refine pg_callVEi (pc := 339) (As := []) (rest := [.int (tRead Z nx kp pl)]) hC dL_law_339 (cX5_read_c l hokr hS kp hsn hkp6 (ch := Z 11 5) rfl hgp hpl60 (r0 := rBegin (tReadK Z nx kp pl 10)) rfl rfl ) (cwV 0 hC.2.2.2.2.1 gL_law_X5_read rfl rfl rfl (by decide +kernel) ⟨Nat.le_of_ble_eq_true rfl, Nat.le_of_ble_eq_true rfl⟩) (ok_mem hokr (by decide)) (ok_Mo hokr) rfl rfl rfl rfl (Nat.le_of_ble_eq_true rfl) (Nat.le_of_ble_eq_true rfl) (Nat.le_of_ble_eq_true rfl) (fun r fd Zd hokd hph => ?_)
      refine pg_icmp_eq (pc := 342) hC 822 dL_law_342 (by decide) (fun _ => ?_) (fun c15 => False.elim (c15 (J_read hJ hph).1.symm))
      refine pg_iinc (pc := 822) (v := nI (i + 5)) (vs' := [(3, .int (nI (i + 5))), (0, .ref (b)), (1, .ref (x 12 2)), (2, .ref (x 11 2))]) hC dL_law_822 3 rfl (nI_add i 5) (by decide) rfl ?_
      refine pg_goto (pc := 825) hC 18 dL_law_825 (by decide) ?_
      refine pg_sub (vs' := [(0, .ref (b)), (1, .ref (x 12 2)), (2, .ref (x 11 2)), (3, .int (nI (i + 5)))]) [1, 2, 3, 0] rfl ?_
      exact ih (i + 5, fd, Zd) ⟨by omega, hokd, (J_read hJ hph).2⟩ (show N + 5 - (i + 5) < N + 5 - i by omega)
    · skip
      have c16 : (xs i) &&& 31 = 7 := hxj
      refine pg_tabIn (pc := 32) hC 347 dL_law_32 (by rw [c16]; decide) (by rw [c16]; decide) (by rw [c16]; rfl) (by decide) ?_
      refine pg_aload_n (pc := 347) hC dL_law_347 1 rfl rfl ?_
      refine pg_aload_n (pc := 348) hC dL_law_348 0 rfl rfl ?_
      refine pg_iload_n (pc := 349) hC dL_law_349 3 rfl rfl ?_
      refine pg_iconst (pc := 350) (v := 1) hC dL_law_350 (by decide) ?_
      refine pg_iadd (pc := 351) (v := nI (i + 1)) hC dL_law_351 (nI_add (i) (1)) ?_
      refine pg_sld (pc := 352) hC hX hbl hbA (i + 1) rfl (by omega) (by omega) dL_law_352 ?_
      refine pg_aload_n (pc := 353) hC dL_law_353 0 rfl rfl ?_
      refine pg_iload_n (pc := 354) hC dL_law_354 3 rfl rfl ?_
      refine pg_iconst (pc := 355) (v := 2) hC dL_law_355 (by decide) ?_
      refine pg_iadd (pc := 356) (v := nI (i + 2)) hC dL_law_356 (nI_add (i) (2)) ?_
      refine pg_sld (pc := 357) hC hX hbl hbA (i + 2) rfl (by omega) (by omega) dL_law_357 ?_
      refine pg_callVRi (pc := 358) (As := [.int (xs (i + 1)), .int (xs (i + 2))]) (rest := []) hC dL_law_358 (cX4_excuse_c l hok n hn hn12 (xs (i + 1)) (xs (i + 2))) (cwV 2 hC.2.2.2.2.1 gL_law_X4_excuse rfl rfl rfl (by decide +kernel) ⟨Nat.le_of_ble_eq_true rfl, Nat.le_of_ble_eq_true rfl⟩) (ok_mem hok (by decide)) (ok_Xo hok) rfl rfl rfl rfl (Nat.le_of_ble_eq_true rfl) (Nat.le_of_ble_eq_true rfl) (Nat.le_of_ble_eq_true rfl) ?_
      have hokr := ogI hok 11
      refine pg_aload_n (pc := 361) hC dL_law_361 2 rfl rfl ?_
      refine pg_aload_n (pc := 362) hC dL_law_362 0 rfl rfl ?_
      refine pg_iload_n (pc := 363) hC dL_law_363 3 rfl rfl ?_
      refine pg_iconst (pc := 364) (v := 1) hC dL_law_364 (by decide) ?_
      refine pg_iadd (pc := 365) (v := nI (i + 1)) hC dL_law_365 (nI_add (i) (1)) ?_
      refine pg_sld (pc := 366) hC hX hbl hbA (i + 1) rfl (by omega) (by omega) dL_law_366 ?_
      refine pg_aload_n (pc := 367) hC dL_law_367 0 rfl rfl ?_
      refine pg_iload_n (pc := 368) hC dL_law_368 3 rfl rfl ?_
      refine pg_iconst (pc := 369) (v := 2) hC dL_law_369 (by decide) ?_
      refine pg_iadd (pc := 370) (v := nI (i + 2)) hC dL_law_370 (nI_add (i) (2)) ?_
      refine pg_sld (pc := 371) hC hX hbl hbA (i + 2) rfl (by omega) (by omega) dL_law_371 ?_
      refine pg_callVRi (pc := 372) (As := [.int (xs (i + 1)), .int (xs (i + 2))]) (rest := [.int (tExcuse (Z 0) (xs (i + 1)) (xs (i + 2)))]) hC dL_law_372 (cX5_excuse_c l hokr hS.1 hS.2.1 (xs (i + 1)) (xs (i + 2))) (cwV 2 hC.2.2.2.2.1 gL_law_X5_excuse rfl rfl rfl (by decide +kernel) ⟨Nat.le_of_ble_eq_true rfl, Nat.le_of_ble_eq_true rfl⟩) (ok_mem hokr (by decide)) (ok_Mo hokr) rfl rfl rfl rfl (Nat.le_of_ble_eq_true rfl) (Nat.le_of_ble_eq_true rfl) (Nat.le_of_ble_eq_true rfl) ?_
      refine pg_icmp_eq (pc := 375) hC 822 dL_law_375 (by decide) (fun _ => ?_) (fun c17 => False.elim (c17 rfl))
      refine pg_iinc (pc := 822) (v := nI (i + 5)) (vs' := [(3, .int (nI (i + 5))), (0, .ref (b)), (1, .ref (x 12 2)), (2, .ref (x 11 2))]) hC dL_law_822 3 rfl (nI_add i 5) (by decide) rfl ?_
      refine pg_goto (pc := 825) hC 18 dL_law_825 (by decide) ?_
      refine pg_sub (vs' := [(0, .ref (b)), (1, .ref (x 12 2)), (2, .ref (x 11 2)), (3, .int (nI (i + 5)))]) [1, 2, 3, 0] rfl ?_
      exact ih (i + 5, f, Z) ⟨by omega, hok, ⟨n, nx, kp, pl, hJ⟩⟩ (show N + 5 - (i + 5) < N + 5 - i by omega)
    · skip
      have c18 : (xs i) &&& 31 = 8 := hxj
      refine pg_tabIn (pc := 32) hC 380 dL_law_32 (by rw [c18]; decide) (by rw [c18]; decide) (by rw [c18]; rfl) (by decide) ?_
      refine pg_aload_n (pc := 380) hC dL_law_380 1 rfl rfl ?_
      refine pg_aload_n (pc := 381) hC dL_law_381 0 rfl rfl ?_
      refine pg_iload_n (pc := 382) hC dL_law_382 3 rfl rfl ?_
      refine pg_iconst (pc := 383) (v := 1) hC dL_law_383 (by decide) ?_
      refine pg_iadd (pc := 384) (v := nI (i + 1)) hC dL_law_384 (nI_add (i) (1)) ?_
      refine pg_sld (pc := 385) hC hX hbl hbA (i + 1) rfl (by omega) (by omega) dL_law_385 ?_
      refine pg_aload_n (pc := 386) hC dL_law_386 0 rfl rfl ?_
      refine pg_iload_n (pc := 387) hC dL_law_387 3 rfl rfl ?_
      refine pg_iconst (pc := 388) (v := 2) hC dL_law_388 (by decide) ?_
      refine pg_iadd (pc := 389) (v := nI (i + 2)) hC dL_law_389 (nI_add (i) (2)) ?_
      refine pg_sld (pc := 390) hC hX hbl hbA (i + 2) rfl (by omega) (by omega) dL_law_390 ?_
      refine pg_callVRi (pc := 391) (As := [.int (xs (i + 1)), .int (xs (i + 2))]) (rest := []) hC dL_law_391 (cX4_pupil_c l hok (xs (i + 1)) (xs (i + 2))) (cwV 2 hC.2.2.2.2.1 gL_law_X4_pupil rfl rfl rfl (by decide +kernel) ⟨Nat.le_of_ble_eq_true rfl, Nat.le_of_ble_eq_true rfl⟩) (ok_mem hok (by decide)) (ok_Xo hok) rfl rfl rfl rfl (Nat.le_of_ble_eq_true rfl) (Nat.le_of_ble_eq_true rfl) (Nat.le_of_ble_eq_true rfl) ?_
      have hokr := ogI hok 11
      refine pg_aload_n (pc := 394) hC dL_law_394 2 rfl rfl ?_
      refine pg_aload_n (pc := 395) hC dL_law_395 0 rfl rfl ?_
      refine pg_iload_n (pc := 396) hC dL_law_396 3 rfl rfl ?_
      refine pg_iconst (pc := 397) (v := 1) hC dL_law_397 (by decide) ?_
      refine pg_iadd (pc := 398) (v := nI (i + 1)) hC dL_law_398 (nI_add (i) (1)) ?_
      refine pg_sld (pc := 399) hC hX hbl hbA (i + 1) rfl (by omega) (by omega) dL_law_399 ?_
      refine pg_aload_n (pc := 400) hC dL_law_400 0 rfl rfl ?_
      refine pg_iload_n (pc := 401) hC dL_law_401 3 rfl rfl ?_
      refine pg_iconst (pc := 402) (v := 2) hC dL_law_402 (by decide) ?_
      refine pg_iadd (pc := 403) (v := nI (i + 2)) hC dL_law_403 (nI_add (i) (2)) ?_
      refine pg_sld (pc := 404) hC hX hbl hbA (i + 2) rfl (by omega) (by omega) dL_law_404 ?_
      refine pg_callVRi (pc := 405) (As := [.int (xs (i + 1)), .int (xs (i + 2))]) (rest := [.int (tPupil (Z 0) (xs (i + 1)) (xs (i + 2)))]) hC dL_law_405 (cX5_pupil_c l hokr hS.1 hS.2.1 (xs (i + 1)) (xs (i + 2))) (cwV 2 hC.2.2.2.2.1 gL_law_X5_pupil rfl rfl rfl (by decide +kernel) ⟨Nat.le_of_ble_eq_true rfl, Nat.le_of_ble_eq_true rfl⟩) (ok_mem hokr (by decide)) (ok_Mo hokr) rfl rfl rfl rfl (Nat.le_of_ble_eq_true rfl) (Nat.le_of_ble_eq_true rfl) (Nat.le_of_ble_eq_true rfl) ?_
      refine pg_icmp_eq (pc := 408) hC 822 dL_law_408 (by decide) (fun _ => ?_) (fun c19 => False.elim (c19 rfl))
      refine pg_iinc (pc := 822) (v := nI (i + 5)) (vs' := [(3, .int (nI (i + 5))), (0, .ref (b)), (1, .ref (x 12 2)), (2, .ref (x 11 2))]) hC dL_law_822 3 rfl (nI_add i 5) (by decide) rfl ?_
      refine pg_goto (pc := 825) hC 18 dL_law_825 (by decide) ?_
      refine pg_sub (vs' := [(0, .ref (b)), (1, .ref (x 12 2)), (2, .ref (x 11 2)), (3, .int (nI (i + 5)))]) [1, 2, 3, 0] rfl ?_
      exact ih (i + 5, f, Z) ⟨by omega, hok, ⟨n, nx, kp, pl, hJ⟩⟩ (show N + 5 - (i + 5) < N + 5 - i by omega)
    · skip
      have c20 : (xs i) &&& 31 = 9 := hxj
      refine pg_tabIn (pc := 32) hC 413 dL_law_32 (by rw [c20]; decide) (by rw [c20]; decide) (by rw [c20]; rfl) (by decide) ?_
      refine pg_aload_n (pc := 413) hC dL_law_413 1 rfl rfl ?_
      refine pg_aload_n (pc := 414) hC dL_law_414 0 rfl rfl ?_
      refine pg_iload_n (pc := 415) hC dL_law_415 3 rfl rfl ?_
      refine pg_iconst (pc := 416) (v := 1) hC dL_law_416 (by decide) ?_
      refine pg_iadd (pc := 417) (v := nI (i + 1)) hC dL_law_417 (nI_add (i) (1)) ?_
      refine pg_sld (pc := 418) hC hX hbl hbA (i + 1) rfl (by omega) (by omega) dL_law_418 ?_
      refine pg_aload_n (pc := 419) hC dL_law_419 0 rfl rfl ?_
      refine pg_iload_n (pc := 420) hC dL_law_420 3 rfl rfl ?_
      refine pg_iconst (pc := 421) (v := 2) hC dL_law_421 (by decide) ?_
      refine pg_iadd (pc := 422) (v := nI (i + 2)) hC dL_law_422 (nI_add (i) (2)) ?_
      refine pg_sld (pc := 423) hC hX hbl hbA (i + 2) rfl (by omega) (by omega) dL_law_423 ?_
      refine pg_callVRi (pc := 424) (As := [.int (xs (i + 1)), .int (xs (i + 2))]) (rest := []) hC dL_law_424 (cX4_novelty_c l hok n hn hn12 (xs (i + 1)) (xs (i + 2))) (cwV 2 hC.2.2.2.2.1 gL_law_X4_novelty rfl rfl rfl (by decide +kernel) ⟨Nat.le_of_ble_eq_true rfl, Nat.le_of_ble_eq_true rfl⟩) (ok_mem hok (by decide)) (ok_Xo hok) rfl rfl rfl rfl (Nat.le_of_ble_eq_true rfl) (Nat.le_of_ble_eq_true rfl) (Nat.le_of_ble_eq_true rfl) ?_
      have hokr := ogI hok 11
      refine pg_aload_n (pc := 427) hC dL_law_427 2 rfl rfl ?_
      refine pg_aload_n (pc := 428) hC dL_law_428 0 rfl rfl ?_
      refine pg_iload_n (pc := 429) hC dL_law_429 3 rfl rfl ?_
      refine pg_iconst (pc := 430) (v := 1) hC dL_law_430 (by decide) ?_
      refine pg_iadd (pc := 431) (v := nI (i + 1)) hC dL_law_431 (nI_add (i) (1)) ?_
      refine pg_sld (pc := 432) hC hX hbl hbA (i + 1) rfl (by omega) (by omega) dL_law_432 ?_
      refine pg_aload_n (pc := 433) hC dL_law_433 0 rfl rfl ?_
      refine pg_iload_n (pc := 434) hC dL_law_434 3 rfl rfl ?_
      refine pg_iconst (pc := 435) (v := 2) hC dL_law_435 (by decide) ?_
      refine pg_iadd (pc := 436) (v := nI (i + 2)) hC dL_law_436 (nI_add (i) (2)) ?_
      refine pg_sld (pc := 437) hC hX hbl hbA (i + 2) rfl (by omega) (by omega) dL_law_437 ?_
      refine pg_callVRi (pc := 438) (As := [.int (xs (i + 1)), .int (xs (i + 2))]) (rest := [.int (tNovelty (Z 0) (xs (i + 1)) (xs (i + 2)))]) hC dL_law_438 (cX5_novelty_c l hokr hS.1 hS.2.1 (xs (i + 1)) (xs (i + 2))) (cwV 2 hC.2.2.2.2.1 gL_law_X5_novelty rfl rfl rfl (by decide +kernel) ⟨Nat.le_of_ble_eq_true rfl, Nat.le_of_ble_eq_true rfl⟩) (ok_mem hokr (by decide)) (ok_Mo hokr) rfl rfl rfl rfl (Nat.le_of_ble_eq_true rfl) (Nat.le_of_ble_eq_true rfl) (Nat.le_of_ble_eq_true rfl) ?_
      refine pg_icmp_eq (pc := 441) hC 822 dL_law_441 (by decide) (fun _ => ?_) (fun c21 => False.elim (c21 rfl))
      refine pg_iinc (pc := 822) (v := nI (i + 5)) (vs' := [(3, .int (nI (i + 5))), (0, .ref (b)), (1, .ref (x 12 2)), (2, .ref (x 11 2))]) hC dL_law_822 3 rfl (nI_add i 5) (by decide) rfl ?_
      refine pg_goto (pc := 825) hC 18 dL_law_825 (by decide) ?_
      refine pg_sub (vs' := [(0, .ref (b)), (1, .ref (x 12 2)), (2, .ref (x 11 2)), (3, .int (nI (i + 5)))]) [1, 2, 3, 0] rfl ?_
      exact ih (i + 5, f, Z) ⟨by omega, hok, ⟨n, nx, kp, pl, hJ⟩⟩ (show N + 5 - (i + 5) < N + 5 - i by omega)
    · skip
      have c22 : (xs i) &&& 31 = 10 := hxj
      refine pg_tabIn (pc := 32) hC 446 dL_law_32 (by rw [c22]; decide) (by rw [c22]; decide) (by rw [c22]; rfl) (by decide) ?_
      refine pg_aload_n (pc := 446) hC dL_law_446 1 rfl rfl ?_
      refine pg_aload_n (pc := 447) hC dL_law_447 0 rfl rfl ?_
      refine pg_iload_n (pc := 448) hC dL_law_448 3 rfl rfl ?_
      refine pg_iconst (pc := 449) (v := 1) hC dL_law_449 (by decide) ?_
      refine pg_iadd (pc := 450) (v := nI (i + 1)) hC dL_law_450 (nI_add (i) (1)) ?_
      refine pg_sld (pc := 451) hC hX hbl hbA (i + 1) rfl (by omega) (by omega) dL_law_451 ?_
      refine pg_aload_n (pc := 452) hC dL_law_452 0 rfl rfl ?_
      refine pg_iload_n (pc := 453) hC dL_law_453 3 rfl rfl ?_
      refine pg_iconst (pc := 454) (v := 2) hC dL_law_454 (by decide) ?_
      refine pg_iadd (pc := 455) (v := nI (i + 2)) hC dL_law_455 (nI_add (i) (2)) ?_
      refine pg_sld (pc := 456) hC hX hbl hbA (i + 2) rfl (by omega) (by omega) dL_law_456 ?_
      refine pg_aload_n (pc := 457) hC dL_law_457 0 rfl rfl ?_
      refine pg_iload_n (pc := 458) hC dL_law_458 3 rfl rfl ?_
      refine pg_iconst (pc := 459) (v := 3) hC dL_law_459 (by decide) ?_
      refine pg_iadd (pc := 460) (v := nI (i + 3)) hC dL_law_460 (nI_add (i) (3)) ?_
      refine pg_sld (pc := 461) hC hX hbl hbA (i + 3) rfl (by omega) (by omega) dL_law_461 ?_
      refine pg_aload_n (pc := 462) hC dL_law_462 0 rfl rfl ?_
      refine pg_iload_n (pc := 463) hC dL_law_463 3 rfl rfl ?_
      refine pg_iconst (pc := 464) (v := 4) hC dL_law_464 (by decide) ?_
      refine pg_iadd (pc := 465) (v := nI (i + 4)) hC dL_law_465 (nI_add (i) (4)) ?_
      refine pg_sld (pc := 466) hC hX hbl hbA (i + 4) rfl (by omega) (by omega) dL_law_466 ?_
      refine pg_callVRi (pc := 467) (As := [.int (xs (i + 1)), .int (xs (i + 2)), .int (xs (i + 3)), .int (xs (i + 4))]) (rest := []) hC dL_law_467 (cX4_why_c l hok n hn hn12 (xs (i + 1)) (xs (i + 2)) (xs (i + 3)) (xs (i + 4))) (cwV 4 hC.2.2.2.2.1 gL_law_X4_why rfl rfl rfl (by decide +kernel) ⟨Nat.le_of_ble_eq_true rfl, Nat.le_of_ble_eq_true rfl⟩) (ok_mem hok (by decide)) (ok_Xo hok) rfl rfl rfl rfl (Nat.le_of_ble_eq_true rfl) (Nat.le_of_ble_eq_true rfl) (Nat.le_of_ble_eq_true rfl) ?_
      have hokr := ogI hok 11
      refine pg_aload_n (pc := 470) hC dL_law_470 2 rfl rfl ?_
      refine pg_aload_n (pc := 471) hC dL_law_471 0 rfl rfl ?_
      refine pg_iload_n (pc := 472) hC dL_law_472 3 rfl rfl ?_
      refine pg_iconst (pc := 473) (v := 1) hC dL_law_473 (by decide) ?_
      refine pg_iadd (pc := 474) (v := nI (i + 1)) hC dL_law_474 (nI_add (i) (1)) ?_
      refine pg_sld (pc := 475) hC hX hbl hbA (i + 1) rfl (by omega) (by omega) dL_law_475 ?_
      refine pg_aload_n (pc := 476) hC dL_law_476 0 rfl rfl ?_
      refine pg_iload_n (pc := 477) hC dL_law_477 3 rfl rfl ?_
      refine pg_iconst (pc := 478) (v := 2) hC dL_law_478 (by decide) ?_
      refine pg_iadd (pc := 479) (v := nI (i + 2)) hC dL_law_479 (nI_add (i) (2)) ?_
      refine pg_sld (pc := 480) hC hX hbl hbA (i + 2) rfl (by omega) (by omega) dL_law_480 ?_
      refine pg_aload_n (pc := 481) hC dL_law_481 0 rfl rfl ?_
      refine pg_iload_n (pc := 482) hC dL_law_482 3 rfl rfl ?_
      refine pg_iconst (pc := 483) (v := 3) hC dL_law_483 (by decide) ?_
      refine pg_iadd (pc := 484) (v := nI (i + 3)) hC dL_law_484 (nI_add (i) (3)) ?_
      refine pg_sld (pc := 485) hC hX hbl hbA (i + 3) rfl (by omega) (by omega) dL_law_485 ?_
      refine pg_aload_n (pc := 486) hC dL_law_486 0 rfl rfl ?_
      refine pg_iload_n (pc := 487) hC dL_law_487 3 rfl rfl ?_
      refine pg_iconst (pc := 488) (v := 4) hC dL_law_488 (by decide) ?_
      refine pg_iadd (pc := 489) (v := nI (i + 4)) hC dL_law_489 (nI_add (i) (4)) ?_
      refine pg_sld (pc := 490) hC hX hbl hbA (i + 4) rfl (by omega) (by omega) dL_law_490 ?_
      refine pg_callVRi (pc := 491) (As := [.int (xs (i + 1)), .int (xs (i + 2)), .int (xs (i + 3)), .int (xs (i + 4))]) (rest := [.int (tWhy (Z 0) (xs (i + 1)) (xs (i + 2)) (xs (i + 3)) (xs (i + 4)))]) hC dL_law_491 (cX5_why_c l hokr hS.1 hS.2.1 (xs (i + 1)) (xs (i + 2)) (xs (i + 3)) (xs (i + 4))) (cwV 4 hC.2.2.2.2.1 gL_law_X5_why rfl rfl rfl (by decide +kernel) ⟨Nat.le_of_ble_eq_true rfl, Nat.le_of_ble_eq_true rfl⟩) (ok_mem hokr (by decide)) (ok_Mo hokr) rfl rfl rfl rfl (Nat.le_of_ble_eq_true rfl) (Nat.le_of_ble_eq_true rfl) (Nat.le_of_ble_eq_true rfl) ?_
      refine pg_icmp_eq (pc := 494) hC 822 dL_law_494 (by decide) (fun _ => ?_) (fun c23 => False.elim (c23 rfl))
      refine pg_iinc (pc := 822) (v := nI (i + 5)) (vs' := [(3, .int (nI (i + 5))), (0, .ref (b)), (1, .ref (x 12 2)), (2, .ref (x 11 2))]) hC dL_law_822 3 rfl (nI_add i 5) (by decide) rfl ?_
      refine pg_goto (pc := 825) hC 18 dL_law_825 (by decide) ?_
      refine pg_sub (vs' := [(0, .ref (b)), (1, .ref (x 12 2)), (2, .ref (x 11 2)), (3, .int (nI (i + 5)))]) [1, 2, 3, 0] rfl ?_
      exact ih (i + 5, f, Z) ⟨by omega, hok, ⟨n, nx, kp, pl, hJ⟩⟩ (show N + 5 - (i + 5) < N + 5 - i by omega)
    · skip
      have c24 : (xs i) &&& 31 = 11 := hxj
      refine pg_tabIn (pc := 32) hC 499 dL_law_32 (by rw [c24]; decide) (by rw [c24]; decide) (by rw [c24]; rfl) (by decide) ?_
      refine pg_aload_n (pc := 499) hC dL_law_499 1 rfl rfl ?_
      refine pg_aload_n (pc := 500) hC dL_law_500 0 rfl rfl ?_
      refine pg_iload_n (pc := 501) hC dL_law_501 3 rfl rfl ?_
      refine pg_iconst (pc := 502) (v := 1) hC dL_law_502 (by decide) ?_
      refine pg_iadd (pc := 503) (v := nI (i + 1)) hC dL_law_503 (nI_add (i) (1)) ?_
      refine pg_sld (pc := 504) hC hX hbl hbA (i + 1) rfl (by omega) (by omega) dL_law_504 ?_
      refine pg_aload_n (pc := 505) hC dL_law_505 0 rfl rfl ?_
      refine pg_iload_n (pc := 506) hC dL_law_506 3 rfl rfl ?_
      refine pg_iconst (pc := 507) (v := 2) hC dL_law_507 (by decide) ?_
      refine pg_iadd (pc := 508) (v := nI (i + 2)) hC dL_law_508 (nI_add (i) (2)) ?_
      refine pg_sld (pc := 509) hC hX hbl hbA (i + 2) rfl (by omega) (by omega) dL_law_509 ?_
      refine pg_aload_n (pc := 510) hC dL_law_510 0 rfl rfl ?_
      refine pg_iload_n (pc := 511) hC dL_law_511 3 rfl rfl ?_
      refine pg_iconst (pc := 512) (v := 3) hC dL_law_512 (by decide) ?_
      refine pg_iadd (pc := 513) (v := nI (i + 3)) hC dL_law_513 (nI_add (i) (3)) ?_
      refine pg_sld (pc := 514) hC hX hbl hbA (i + 3) rfl (by omega) (by omega) dL_law_514 ?_
      refine pg_aload_n (pc := 515) hC dL_law_515 0 rfl rfl ?_
      refine pg_iload_n (pc := 516) hC dL_law_516 3 rfl rfl ?_
      refine pg_iconst (pc := 517) (v := 4) hC dL_law_517 (by decide) ?_
      refine pg_iadd (pc := 518) (v := nI (i + 4)) hC dL_law_518 (nI_add (i) (4)) ?_
      refine pg_sld (pc := 519) hC hX hbl hbA (i + 4) rfl (by omega) (by omega) dL_law_519 ?_
      refine pg_callVRi (pc := 520) (As := [.int (xs (i + 1)), .int (xs (i + 2)), .int (xs (i + 3)), .int (xs (i + 4))]) (rest := []) hC dL_law_520 (cX4_weight_c l hok n hn hn12 (xs (i + 1)) (xs (i + 2)) (xs (i + 3)) (xs (i + 4))) (cwV 4 hC.2.2.2.2.1 gL_law_X4_weight rfl rfl rfl (by decide +kernel) ⟨Nat.le_of_ble_eq_true rfl, Nat.le_of_ble_eq_true rfl⟩) (ok_mem hok (by decide)) (ok_Xo hok) rfl rfl rfl rfl (Nat.le_of_ble_eq_true rfl) (Nat.le_of_ble_eq_true rfl) (Nat.le_of_ble_eq_true rfl) ?_
      have hokr := ogI hok 11
      refine pg_aload_n (pc := 523) hC dL_law_523 2 rfl rfl ?_
      refine pg_aload_n (pc := 524) hC dL_law_524 0 rfl rfl ?_
      refine pg_iload_n (pc := 525) hC dL_law_525 3 rfl rfl ?_
      refine pg_iconst (pc := 526) (v := 1) hC dL_law_526 (by decide) ?_
      refine pg_iadd (pc := 527) (v := nI (i + 1)) hC dL_law_527 (nI_add (i) (1)) ?_
      refine pg_sld (pc := 528) hC hX hbl hbA (i + 1) rfl (by omega) (by omega) dL_law_528 ?_
      refine pg_aload_n (pc := 529) hC dL_law_529 0 rfl rfl ?_
      refine pg_iload_n (pc := 530) hC dL_law_530 3 rfl rfl ?_
      refine pg_iconst (pc := 531) (v := 2) hC dL_law_531 (by decide) ?_
      refine pg_iadd (pc := 532) (v := nI (i + 2)) hC dL_law_532 (nI_add (i) (2)) ?_
      refine pg_sld (pc := 533) hC hX hbl hbA (i + 2) rfl (by omega) (by omega) dL_law_533 ?_
      refine pg_aload_n (pc := 534) hC dL_law_534 0 rfl rfl ?_
      refine pg_iload_n (pc := 535) hC dL_law_535 3 rfl rfl ?_
      refine pg_iconst (pc := 536) (v := 3) hC dL_law_536 (by decide) ?_
      refine pg_iadd (pc := 537) (v := nI (i + 3)) hC dL_law_537 (nI_add (i) (3)) ?_
      refine pg_sld (pc := 538) hC hX hbl hbA (i + 3) rfl (by omega) (by omega) dL_law_538 ?_
      refine pg_aload_n (pc := 539) hC dL_law_539 0 rfl rfl ?_
      refine pg_iload_n (pc := 540) hC dL_law_540 3 rfl rfl ?_
      refine pg_iconst (pc := 541) (v := 4) hC dL_law_541 (by decide) ?_
      refine pg_iadd (pc := 542) (v := nI (i + 4)) hC dL_law_542 (nI_add (i) (4)) ?_
      refine pg_sld (pc := 543) hC hX hbl hbA (i + 4) rfl (by omega) (by omega) dL_law_543 ?_
      refine pg_callVRi (pc := 544) (As := [.int (xs (i + 1)), .int (xs (i + 2)), .int (xs (i + 3)), .int (xs (i + 4))]) (rest := [.int (tWeight (Z 0) (xs (i + 1)) (xs (i + 2)) (xs (i + 3)) (xs (i + 4)))]) hC dL_law_544 (cX5_weight_c l hokr hS.1 hS.2.1 (xs (i + 1)) (xs (i + 2)) (xs (i + 3)) (xs (i + 4))) (cwV 4 hC.2.2.2.2.1 gL_law_X5_weight rfl rfl rfl (by decide +kernel) ⟨Nat.le_of_ble_eq_true rfl, Nat.le_of_ble_eq_true rfl⟩) (ok_mem hokr (by decide)) (ok_Mo hokr) rfl rfl rfl rfl (Nat.le_of_ble_eq_true rfl) (Nat.le_of_ble_eq_true rfl) (Nat.le_of_ble_eq_true rfl) ?_
      refine pg_icmp_eq (pc := 547) hC 822 dL_law_547 (by decide) (fun _ => ?_) (fun c25 => False.elim (c25 rfl))
      refine pg_iinc (pc := 822) (v := nI (i + 5)) (vs' := [(3, .int (nI (i + 5))), (0, .ref (b)), (1, .ref (x 12 2)), (2, .ref (x 11 2))]) hC dL_law_822 3 rfl (nI_add i 5) (by decide) rfl ?_
      refine pg_goto (pc := 825) hC 18 dL_law_825 (by decide) ?_
      refine pg_sub (vs' := [(0, .ref (b)), (1, .ref (x 12 2)), (2, .ref (x 11 2)), (3, .int (nI (i + 5)))]) [1, 2, 3, 0] rfl ?_
      exact ih (i + 5, f, Z) ⟨by omega, hok, ⟨n, nx, kp, pl, hJ⟩⟩ (show N + 5 - (i + 5) < N + 5 - i by omega)
    · skip
      have c26 : (xs i) &&& 31 = 12 := hxj
      refine pg_tabIn (pc := 32) hC 552 dL_law_32 (by rw [c26]; decide) (by rw [c26]; decide) (by rw [c26]; rfl) (by decide) ?_
      refine pg_aload_n (pc := 552) hC dL_law_552 1 rfl rfl ?_
      refine pg_aload_n (pc := 553) hC dL_law_553 0 rfl rfl ?_
      refine pg_iload_n (pc := 554) hC dL_law_554 3 rfl rfl ?_
      refine pg_iconst (pc := 555) (v := 1) hC dL_law_555 (by decide) ?_
      refine pg_iadd (pc := 556) (v := nI (i + 1)) hC dL_law_556 (nI_add (i) (1)) ?_
      refine pg_sld (pc := 557) hC hX hbl hbA (i + 1) rfl (by omega) (by omega) dL_law_557 ?_
      refine pg_callVRi (pc := 558) (As := [.int (xs (i + 1))]) (rest := []) hC dL_law_558 (cX4_count_c l hok n hn hn12 (xs (i + 1)) (nI pl) hpl) (cwV 1 hC.2.2.2.2.1 gL_law_X4_count rfl rfl rfl (by decide +kernel) ⟨Nat.le_of_ble_eq_true rfl, Nat.le_of_ble_eq_true rfl⟩) (ok_mem hok (by decide)) (ok_Xo hok) rfl rfl rfl rfl (Nat.le_of_ble_eq_true rfl) (Nat.le_of_ble_eq_true rfl) (Nat.le_of_ble_eq_true rfl) ?_
      have hokr := ogI hok 11
      refine pg_aload_n (pc := 561) hC dL_law_561 2 rfl rfl ?_
      refine pg_aload_n (pc := 562) hC dL_law_562 0 rfl rfl ?_
      refine pg_iload_n (pc := 563) hC dL_law_563 3 rfl rfl ?_
      refine pg_iconst (pc := 564) (v := 1) hC dL_law_564 (by decide) ?_
      refine pg_iadd (pc := 565) (v := nI (i + 1)) hC dL_law_565 (nI_add (i) (1)) ?_
      refine pg_sld (pc := 566) hC hX hbl hbA (i + 1) rfl (by omega) (by omega) dL_law_566 ?_
      refine pg_callVRi (pc := 567) (As := [.int (xs (i + 1))]) (rest := [.int (tCount (Z 0) n (nI pl) (Z 12 2 0) (xs (i + 1)))]) hC dL_law_567 (cX5_count_c l hokr hS.1 hS.2.1 hS.2.2.1 (xs (i + 1))) (cwV 1 hC.2.2.2.2.1 gL_law_X5_count rfl rfl rfl (by decide +kernel) ⟨Nat.le_of_ble_eq_true rfl, Nat.le_of_ble_eq_true rfl⟩) (ok_mem hokr (by decide)) (ok_Mo hokr) rfl rfl rfl rfl (Nat.le_of_ble_eq_true rfl) (Nat.le_of_ble_eq_true rfl) (Nat.le_of_ble_eq_true rfl) ?_
      refine pg_icmp_eq (pc := 570) hC 822 dL_law_570 (by decide) (fun _ => ?_) (fun c27 => False.elim (c27 (by rw [hgp, hsn, hkp])))
      refine pg_iinc (pc := 822) (v := nI (i + 5)) (vs' := [(3, .int (nI (i + 5))), (0, .ref (b)), (1, .ref (x 12 2)), (2, .ref (x 11 2))]) hC dL_law_822 3 rfl (nI_add i 5) (by decide) rfl ?_
      refine pg_goto (pc := 825) hC 18 dL_law_825 (by decide) ?_
      refine pg_sub (vs' := [(0, .ref (b)), (1, .ref (x 12 2)), (2, .ref (x 11 2)), (3, .int (nI (i + 5)))]) [1, 2, 3, 0] rfl ?_
      exact ih (i + 5, f, Z) ⟨by omega, hok, ⟨n, nx, kp, pl, hJ⟩⟩ (show N + 5 - (i + 5) < N + 5 - i by omega)
    · skip
      have c28 : (xs i) &&& 31 = 13 := hxj
      refine pg_tabIn (pc := 32) hC 575 dL_law_32 (by rw [c28]; decide) (by rw [c28]; decide) (by rw [c28]; rfl) (by decide) ?_
      refine pg_aload_n (pc := 575) hC dL_law_575 1 rfl rfl ?_
      refine pg_aload_n (pc := 576) hC dL_law_576 0 rfl rfl ?_
      refine pg_iload_n (pc := 577) hC dL_law_577 3 rfl rfl ?_
      refine pg_iconst (pc := 578) (v := 1) hC dL_law_578 (by decide) ?_
      refine pg_iadd (pc := 579) (v := nI (i + 1)) hC dL_law_579 (nI_add (i) (1)) ?_
      refine pg_sld (pc := 580) hC hX hbl hbA (i + 1) rfl (by omega) (by omega) dL_law_580 ?_
      refine pg_aload_n (pc := 581) hC dL_law_581 0 rfl rfl ?_
      refine pg_iload_n (pc := 582) hC dL_law_582 3 rfl rfl ?_
      refine pg_iconst (pc := 583) (v := 2) hC dL_law_583 (by decide) ?_
      refine pg_iadd (pc := 584) (v := nI (i + 2)) hC dL_law_584 (nI_add (i) (2)) ?_
      refine pg_sld (pc := 585) hC hX hbl hbA (i + 2) rfl (by omega) (by omega) dL_law_585 ?_
      refine pg_callVRi (pc := 586) (As := [.int (xs (i + 1)), .int (xs (i + 2))]) (rest := []) hC dL_law_586 (cX4_bestExcuse_c l hok n hn hn12 (xs (i + 1)) (xs (i + 2))) (cwV 2 hC.2.2.2.2.1 gL_law_X4_bestExcuse rfl rfl rfl (by decide +kernel) ⟨Nat.le_of_ble_eq_true rfl, Nat.le_of_ble_eq_true rfl⟩) (ok_mem hok (by decide)) (ok_Xo hok) rfl rfl rfl rfl (Nat.le_of_ble_eq_true rfl) (Nat.le_of_ble_eq_true rfl) (Nat.le_of_ble_eq_true rfl) ?_
      have hokr := ogI hok 11
      refine pg_aload_n (pc := 589) hC dL_law_589 2 rfl rfl ?_
      refine pg_aload_n (pc := 590) hC dL_law_590 0 rfl rfl ?_
      refine pg_iload_n (pc := 591) hC dL_law_591 3 rfl rfl ?_
      refine pg_iconst (pc := 592) (v := 1) hC dL_law_592 (by decide) ?_
      refine pg_iadd (pc := 593) (v := nI (i + 1)) hC dL_law_593 (nI_add (i) (1)) ?_
      refine pg_sld (pc := 594) hC hX hbl hbA (i + 1) rfl (by omega) (by omega) dL_law_594 ?_
      refine pg_aload_n (pc := 595) hC dL_law_595 0 rfl rfl ?_
      refine pg_iload_n (pc := 596) hC dL_law_596 3 rfl rfl ?_
      refine pg_iconst (pc := 597) (v := 2) hC dL_law_597 (by decide) ?_
      refine pg_iadd (pc := 598) (v := nI (i + 2)) hC dL_law_598 (nI_add (i) (2)) ?_
      refine pg_sld (pc := 599) hC hX hbl hbA (i + 2) rfl (by omega) (by omega) dL_law_599 ?_
      refine pg_callVRi (pc := 600) (As := [.int (xs (i + 1)), .int (xs (i + 2))]) (rest := [.int (tBestE (Z 0) n (xs (i + 1)) (xs (i + 2)))]) hC dL_law_600 (cX5_bestExcuse_c l hokr hS.1 hS.2.1 (xs (i + 1)) (xs (i + 2))) (cwV 2 hC.2.2.2.2.1 gL_law_X5_bestExcuse rfl rfl rfl (by decide +kernel) ⟨Nat.le_of_ble_eq_true rfl, Nat.le_of_ble_eq_true rfl⟩) (ok_mem hokr (by decide)) (ok_Mo hokr) rfl rfl rfl rfl (Nat.le_of_ble_eq_true rfl) (Nat.le_of_ble_eq_true rfl) (Nat.le_of_ble_eq_true rfl) ?_
      refine pg_icmp_eq (pc := 603) hC 822 dL_law_603 (by decide) (fun _ => ?_) (fun c29 => False.elim (c29 rfl))
      refine pg_iinc (pc := 822) (v := nI (i + 5)) (vs' := [(3, .int (nI (i + 5))), (0, .ref (b)), (1, .ref (x 12 2)), (2, .ref (x 11 2))]) hC dL_law_822 3 rfl (nI_add i 5) (by decide) rfl ?_
      refine pg_goto (pc := 825) hC 18 dL_law_825 (by decide) ?_
      refine pg_sub (vs' := [(0, .ref (b)), (1, .ref (x 12 2)), (2, .ref (x 11 2)), (3, .int (nI (i + 5)))]) [1, 2, 3, 0] rfl ?_
      exact ih (i + 5, f, Z) ⟨by omega, hok, ⟨n, nx, kp, pl, hJ⟩⟩ (show N + 5 - (i + 5) < N + 5 - i by omega)
    · skip
      have c30 : (xs i) &&& 31 = 14 := hxj
      refine pg_tabIn (pc := 32) hC 608 dL_law_32 (by rw [c30]; decide) (by rw [c30]; decide) (by rw [c30]; rfl) (by decide) ?_
      refine pg_aload_n (pc := 608) hC dL_law_608 1 rfl rfl ?_
      refine pg_aload_n (pc := 609) hC dL_law_609 0 rfl rfl ?_
      refine pg_iload_n (pc := 610) hC dL_law_610 3 rfl rfl ?_
      refine pg_iconst (pc := 611) (v := 1) hC dL_law_611 (by decide) ?_
      refine pg_iadd (pc := 612) (v := nI (i + 1)) hC dL_law_612 (nI_add (i) (1)) ?_
      refine pg_sld (pc := 613) hC hX hbl hbA (i + 1) rfl (by omega) (by omega) dL_law_613 ?_
      refine pg_aload_n (pc := 614) hC dL_law_614 0 rfl rfl ?_
      refine pg_iload_n (pc := 615) hC dL_law_615 3 rfl rfl ?_
      refine pg_iconst (pc := 616) (v := 2) hC dL_law_616 (by decide) ?_
      refine pg_iadd (pc := 617) (v := nI (i + 2)) hC dL_law_617 (nI_add (i) (2)) ?_
      refine pg_sld (pc := 618) hC hX hbl hbA (i + 2) rfl (by omega) (by omega) dL_law_618 ?_
      refine pg_aload_n (pc := 619) hC dL_law_619 0 rfl rfl ?_
      refine pg_iload_n (pc := 620) hC dL_law_620 3 rfl rfl ?_
      refine pg_iconst (pc := 621) (v := 3) hC dL_law_621 (by decide) ?_
      refine pg_iadd (pc := 622) (v := nI (i + 3)) hC dL_law_622 (nI_add (i) (3)) ?_
      refine pg_sld (pc := 623) hC hX hbl hbA (i + 3) rfl (by omega) (by omega) dL_law_623 ?_
      refine pg_callVRi (pc := 624) (As := [.int (xs (i + 1)), .int (xs (i + 2)), .int (xs (i + 3))]) (rest := []) hC dL_law_624 (cX4_bestWitness_c l hok n hn hn12 (xs (i + 1)) (xs (i + 2)) (xs (i + 3))) (cwV 3 hC.2.2.2.2.1 gL_law_X4_bestWitness rfl rfl rfl (by decide +kernel) ⟨Nat.le_of_ble_eq_true rfl, Nat.le_of_ble_eq_true rfl⟩) (ok_mem hok (by decide)) (ok_Xo hok) rfl rfl rfl rfl (Nat.le_of_ble_eq_true rfl) (Nat.le_of_ble_eq_true rfl) (Nat.le_of_ble_eq_true rfl) ?_
      have hokr := ogI hok 11
      refine pg_aload_n (pc := 627) hC dL_law_627 2 rfl rfl ?_
      refine pg_aload_n (pc := 628) hC dL_law_628 0 rfl rfl ?_
      refine pg_iload_n (pc := 629) hC dL_law_629 3 rfl rfl ?_
      refine pg_iconst (pc := 630) (v := 1) hC dL_law_630 (by decide) ?_
      refine pg_iadd (pc := 631) (v := nI (i + 1)) hC dL_law_631 (nI_add (i) (1)) ?_
      refine pg_sld (pc := 632) hC hX hbl hbA (i + 1) rfl (by omega) (by omega) dL_law_632 ?_
      refine pg_aload_n (pc := 633) hC dL_law_633 0 rfl rfl ?_
      refine pg_iload_n (pc := 634) hC dL_law_634 3 rfl rfl ?_
      refine pg_iconst (pc := 635) (v := 2) hC dL_law_635 (by decide) ?_
      refine pg_iadd (pc := 636) (v := nI (i + 2)) hC dL_law_636 (nI_add (i) (2)) ?_
      refine pg_sld (pc := 637) hC hX hbl hbA (i + 2) rfl (by omega) (by omega) dL_law_637 ?_
      refine pg_aload_n (pc := 638) hC dL_law_638 0 rfl rfl ?_
      refine pg_iload_n (pc := 639) hC dL_law_639 3 rfl rfl ?_
      refine pg_iconst (pc := 640) (v := 3) hC dL_law_640 (by decide) ?_
      refine pg_iadd (pc := 641) (v := nI (i + 3)) hC dL_law_641 (nI_add (i) (3)) ?_
      refine pg_sld (pc := 642) hC hX hbl hbA (i + 3) rfl (by omega) (by omega) dL_law_642 ?_
      refine pg_callVRi (pc := 643) (As := [.int (xs (i + 1)), .int (xs (i + 2)), .int (xs (i + 3))]) (rest := [.int (tBestW (Z 0) (xs (i + 1)) (xs (i + 2)) (xs (i + 3)))]) hC dL_law_643 (cX5_bestWitness_c l hokr hS.1 hS.2.1 (xs (i + 1)) (xs (i + 2)) (xs (i + 3))) (cwV 3 hC.2.2.2.2.1 gL_law_X5_bestWitness rfl rfl rfl (by decide +kernel) ⟨Nat.le_of_ble_eq_true rfl, Nat.le_of_ble_eq_true rfl⟩) (ok_mem hokr (by decide)) (ok_Mo hokr) rfl rfl rfl rfl (Nat.le_of_ble_eq_true rfl) (Nat.le_of_ble_eq_true rfl) (Nat.le_of_ble_eq_true rfl) ?_
      refine pg_icmp_eq (pc := 646) hC 822 dL_law_646 (by decide) (fun _ => ?_) (fun c31 => False.elim (c31 rfl))
      refine pg_iinc (pc := 822) (v := nI (i + 5)) (vs' := [(3, .int (nI (i + 5))), (0, .ref (b)), (1, .ref (x 12 2)), (2, .ref (x 11 2))]) hC dL_law_822 3 rfl (nI_add i 5) (by decide) rfl ?_
      refine pg_goto (pc := 825) hC 18 dL_law_825 (by decide) ?_
      refine pg_sub (vs' := [(0, .ref (b)), (1, .ref (x 12 2)), (2, .ref (x 11 2)), (3, .int (nI (i + 5)))]) [1, 2, 3, 0] rfl ?_
      exact ih (i + 5, f, Z) ⟨by omega, hok, ⟨n, nx, kp, pl, hJ⟩⟩ (show N + 5 - (i + 5) < N + 5 - i by omega)
    · skip
      have c32 : (xs i) &&& 31 = 15 := hxj
      refine pg_tabIn (pc := 32) hC 651 dL_law_32 (by rw [c32]; decide) (by rw [c32]; decide) (by rw [c32]; rfl) (by decide) ?_
      refine pg_aload_n (pc := 651) hC dL_law_651 1 rfl rfl ?_
      refine pg_aload_n (pc := 652) hC dL_law_652 0 rfl rfl ?_
      refine pg_iload_n (pc := 653) hC dL_law_653 3 rfl rfl ?_
      refine pg_iconst (pc := 654) (v := 1) hC dL_law_654 (by decide) ?_
      refine pg_iadd (pc := 655) (v := nI (i + 1)) hC dL_law_655 (nI_add (i) (1)) ?_
      refine pg_sld (pc := 656) hC hX hbl hbA (i + 1) rfl (by omega) (by omega) dL_law_656 ?_
      refine pg_aload_n (pc := 657) hC dL_law_657 0 rfl rfl ?_
      refine pg_iload_n (pc := 658) hC dL_law_658 3 rfl rfl ?_
      refine pg_iconst (pc := 659) (v := 2) hC dL_law_659 (by decide) ?_
      refine pg_iadd (pc := 660) (v := nI (i + 2)) hC dL_law_660 (nI_add (i) (2)) ?_
      refine pg_sld (pc := 661) hC hX hbl hbA (i + 2) rfl (by omega) (by omega) dL_law_661 ?_
      refine pg_callVRi (pc := 662) (As := [.int (xs (i + 1)), .int (xs (i + 2))]) (rest := []) hC dL_law_662 (cX4_mostMinutes_c l hok n hn hn12 (xs (i + 1)) (xs (i + 2))) (cwV 2 hC.2.2.2.2.1 gL_law_X4_mostMinutes rfl rfl rfl (by decide +kernel) ⟨Nat.le_of_ble_eq_true rfl, Nat.le_of_ble_eq_true rfl⟩) (ok_mem hok (by decide)) (ok_Xo hok) rfl rfl rfl rfl (Nat.le_of_ble_eq_true rfl) (Nat.le_of_ble_eq_true rfl) (Nat.le_of_ble_eq_true rfl) ?_
      have hokr := ogI hok 11
      refine pg_aload_n (pc := 665) hC dL_law_665 2 rfl rfl ?_
      refine pg_aload_n (pc := 666) hC dL_law_666 0 rfl rfl ?_
      refine pg_iload_n (pc := 667) hC dL_law_667 3 rfl rfl ?_
      refine pg_iconst (pc := 668) (v := 1) hC dL_law_668 (by decide) ?_
      refine pg_iadd (pc := 669) (v := nI (i + 1)) hC dL_law_669 (nI_add (i) (1)) ?_
      refine pg_sld (pc := 670) hC hX hbl hbA (i + 1) rfl (by omega) (by omega) dL_law_670 ?_
      refine pg_aload_n (pc := 671) hC dL_law_671 0 rfl rfl ?_
      refine pg_iload_n (pc := 672) hC dL_law_672 3 rfl rfl ?_
      refine pg_iconst (pc := 673) (v := 2) hC dL_law_673 (by decide) ?_
      refine pg_iadd (pc := 674) (v := nI (i + 2)) hC dL_law_674 (nI_add (i) (2)) ?_
      refine pg_sld (pc := 675) hC hX hbl hbA (i + 2) rfl (by omega) (by omega) dL_law_675 ?_
      refine pg_callVRi (pc := 676) (As := [.int (xs (i + 1)), .int (xs (i + 2))]) (rest := [.int (tMost (Z 0) (xs (i + 1)) (xs (i + 2)))]) hC dL_law_676 (cX5_mostMinutes_c l hokr hS.1 hS.2.1 (xs (i + 1)) (xs (i + 2))) (cwV 2 hC.2.2.2.2.1 gL_law_X5_mostMinutes rfl rfl rfl (by decide +kernel) ⟨Nat.le_of_ble_eq_true rfl, Nat.le_of_ble_eq_true rfl⟩) (ok_mem hokr (by decide)) (ok_Mo hokr) rfl rfl rfl rfl (Nat.le_of_ble_eq_true rfl) (Nat.le_of_ble_eq_true rfl) (Nat.le_of_ble_eq_true rfl) ?_
      refine pg_icmp_eq (pc := 679) hC 822 dL_law_679 (by decide) (fun _ => ?_) (fun c33 => False.elim (c33 rfl))
      refine pg_iinc (pc := 822) (v := nI (i + 5)) (vs' := [(3, .int (nI (i + 5))), (0, .ref (b)), (1, .ref (x 12 2)), (2, .ref (x 11 2))]) hC dL_law_822 3 rfl (nI_add i 5) (by decide) rfl ?_
      refine pg_goto (pc := 825) hC 18 dL_law_825 (by decide) ?_
      refine pg_sub (vs' := [(0, .ref (b)), (1, .ref (x 12 2)), (2, .ref (x 11 2)), (3, .int (nI (i + 5)))]) [1, 2, 3, 0] rfl ?_
      exact ih (i + 5, f, Z) ⟨by omega, hok, ⟨n, nx, kp, pl, hJ⟩⟩ (show N + 5 - (i + 5) < N + 5 - i by omega)
    · skip
      have c34 : (xs i) &&& 31 = 16 := hxj
      refine pg_tabIn (pc := 32) hC 684 dL_law_32 (by rw [c34]; decide) (by rw [c34]; decide) (by rw [c34]; rfl) (by decide) ?_
      refine pg_aload_n (pc := 684) hC dL_law_684 1 rfl rfl ?_
      refine pg_aload_n (pc := 685) hC dL_law_685 0 rfl rfl ?_
      refine pg_iload_n (pc := 686) hC dL_law_686 3 rfl rfl ?_
      refine pg_iconst (pc := 687) (v := 1) hC dL_law_687 (by decide) ?_
      refine pg_iadd (pc := 688) (v := nI (i + 1)) hC dL_law_688 (nI_add (i) (1)) ?_
      refine pg_sld (pc := 689) hC hX hbl hbA (i + 1) rfl (by omega) (by omega) dL_law_689 ?_
      refine pg_i2l (pc := 690) (v := (xs (i + 1)).toInt64) hC dL_law_690 rfl ?_
      refine pg_bipush (pc := 691) (v := 32) hC dL_law_691 (by decide) ?_
      refine pg_lshl (pc := 693) (v := ((xs (i + 1)).toInt64) <<< ((32 : Int32).toInt64 &&& 63)) hC dL_law_693 rfl ?_
      refine pg_aload_n (pc := 694) hC dL_law_694 0 rfl rfl ?_
      refine pg_iload_n (pc := 695) hC dL_law_695 3 rfl rfl ?_
      refine pg_iconst (pc := 696) (v := 2) hC dL_law_696 (by decide) ?_
      refine pg_iadd (pc := 697) (v := nI (i + 2)) hC dL_law_697 (nI_add (i) (2)) ?_
      refine pg_sld (pc := 698) hC hX hbl hbA (i + 2) rfl (by omega) (by omega) dL_law_698 ?_
      refine pg_i2l (pc := 699) (v := (xs (i + 2)).toInt64) hC dL_law_699 rfl ?_
      refine pg_ldc2 (pc := 700) (v := 4294967295) hC dL_law_700 hcl ?_
      refine pg_land (pc := 703) (v := ((xs (i + 2)).toInt64) &&& 4294967295) hC dL_law_703 rfl ?_
      refine pg_lor (pc := 704) (v := (((xs (i + 1)).toInt64) <<< ((32 : Int32).toInt64 &&& 63)) ||| (((xs (i + 2)).toInt64) &&& 4294967295)) hC dL_law_704 rfl ?_
      refine pg_callVWi (pc := 705) (As := [.long ((((xs (i + 1)).toInt64) <<< ((32 : Int32).toInt64 &&& 63)) ||| (((xs (i + 2)).toInt64) &&& 4294967295))]) (rest := []) hC dL_law_705 (cX4_put_c l hok pl hpl hpl60 ((((xs (i + 1)).toInt64) <<< ((32 : Int32).toInt64 &&& 63)) ||| (((xs (i + 2)).toInt64) &&& 4294967295))) (cwV 1 hC.2.2.2.2.1 gL_law_X4_put rfl rfl rfl (by decide +kernel) ⟨Nat.le_of_ble_eq_true rfl, Nat.le_of_ble_eq_true rfl⟩) (ok_mem hok (by decide)) (ok_Xo hok) rfl rfl rfl rfl (Nat.le_of_ble_eq_true rfl) (Nat.le_of_ble_eq_true rfl) (Nat.le_of_ble_eq_true rfl) (fun fc hokc => ?_)
      have hokr : pv_ok κ x L3 fc (va_up (tPutZ Z ((((xs (i + 1)).toInt64) <<< ((32 : Int32).toInt64 &&& 63)) ||| (((xs (i + 2)).toInt64) &&& 4294967295)) pl) 11 (Z 11)) := by have q := ogI hokc 11; rw [(J_put (X := ((((xs (i + 1)).toInt64) <<< ((32 : Int32).toInt64 &&& 63)) ||| (((xs (i + 2)).toInt64) &&& 4294967295))) hJ).1] at q; exact q
      refine pg_aload_n (pc := 708) hC dL_law_708 2 rfl rfl ?_
      refine pg_aload_n (pc := 709) hC dL_law_709 0 rfl rfl ?_
      refine pg_iload_n (pc := 710) hC dL_law_710 3 rfl rfl ?_
      refine pg_iconst (pc := 711) (v := 1) hC dL_law_711 (by decide) ?_
      refine pg_iadd (pc := 712) (v := nI (i + 1)) hC dL_law_712 (nI_add (i) (1)) ?_
      refine pg_sld (pc := 713) hC hX hbl hbA (i + 1) rfl (by omega) (by omega) dL_law_713 ?_
      refine pg_i2l (pc := 714) (v := (xs (i + 1)).toInt64) hC dL_law_714 rfl ?_
      refine pg_bipush (pc := 715) (v := 32) hC dL_law_715 (by decide) ?_
      refine pg_lshl (pc := 717) (v := ((xs (i + 1)).toInt64) <<< ((32 : Int32).toInt64 &&& 63)) hC dL_law_717 rfl ?_
      refine pg_aload_n (pc := 718) hC dL_law_718 0 rfl rfl ?_
      refine pg_iload_n (pc := 719) hC dL_law_719 3 rfl rfl ?_
      refine pg_iconst (pc := 720) (v := 2) hC dL_law_720 (by decide) ?_
      refine pg_iadd (pc := 721) (v := nI (i + 2)) hC dL_law_721 (nI_add (i) (2)) ?_
      refine pg_sld (pc := 722) hC hX hbl hbA (i + 2) rfl (by omega) (by omega) dL_law_722 ?_
      refine pg_i2l (pc := 723) (v := (xs (i + 2)).toInt64) hC dL_law_723 rfl ?_
      refine pg_ldc2 (pc := 724) (v := 4294967295) hC dL_law_724 hcl ?_
      refine pg_land (pc := 727) (v := ((xs (i + 2)).toInt64) &&& 4294967295) hC dL_law_727 rfl ?_
      refine pg_lor (pc := 728) (v := (((xs (i + 1)).toInt64) <<< ((32 : Int32).toInt64 &&& 63)) ||| (((xs (i + 2)).toInt64) &&& 4294967295)) hC dL_law_728 rfl ?_
      refine pg_callVWi (pc := 729) (As := [.long ((((xs (i + 1)).toInt64) <<< ((32 : Int32).toInt64 &&& 63)) ||| (((xs (i + 2)).toInt64) &&& 4294967295))]) (rest := [.int (tPut ((((xs (i + 1)).toInt64) <<< ((32 : Int32).toInt64 &&& 63)) ||| (((xs (i + 2)).toInt64) &&& 4294967295)) pl)]) hC dL_law_729 (cX5_put_c l hokr pl hgp hpl60 ((((xs (i + 1)).toInt64) <<< ((32 : Int32).toInt64 &&& 63)) ||| (((xs (i + 2)).toInt64) &&& 4294967295))) (cwV 1 hC.2.2.2.2.1 gL_law_X5_put rfl rfl rfl (by decide +kernel) ⟨Nat.le_of_ble_eq_true rfl, Nat.le_of_ble_eq_true rfl⟩) (ok_mem hokr (by decide)) (ok_Mo hokr) rfl rfl rfl rfl (Nat.le_of_ble_eq_true rfl) (Nat.le_of_ble_eq_true rfl) (Nat.le_of_ble_eq_true rfl) (fun fd hokd => ?_)
      refine pg_icmp_eq (pc := 732) hC 822 dL_law_732 (by decide) (fun _ => ?_) (fun c35 => False.elim (c35 rfl))
      refine pg_iinc (pc := 822) (v := nI (i + 5)) (vs' := [(3, .int (nI (i + 5))), (0, .ref (b)), (1, .ref (x 12 2)), (2, .ref (x 11 2))]) hC dL_law_822 3 rfl (nI_add i 5) (by decide) rfl ?_
      refine pg_goto (pc := 825) hC 18 dL_law_825 (by decide) ?_
      refine pg_sub (vs' := [(0, .ref (b)), (1, .ref (x 12 2)), (2, .ref (x 11 2)), (3, .int (nI (i + 5)))]) [1, 2, 3, 0] rfl ?_
      exact ih (i + 5, fd, va_up (tPutZ Z ((((xs (i + 1)).toInt64) <<< ((32 : Int32).toInt64 &&& 63)) ||| (((xs (i + 2)).toInt64) &&& 4294967295)) pl) 11 (mPut ((((xs (i + 1)).toInt64) <<< ((32 : Int32).toInt64 &&& 63)) ||| (((xs (i + 2)).toInt64) &&& 4294967295)) (Z 11) pl)) ⟨by omega, hokd, (J_put hJ).2⟩ (show N + 5 - (i + 5) < N + 5 - i by omega)
    · skip
      have c36 : (xs i) &&& 31 = 17 := hxj
      refine pg_tabIn (pc := 32) hC 737 dL_law_32 (by rw [c36]; decide) (by rw [c36]; decide) (by rw [c36]; rfl) (by decide) ?_
      refine pg_aload_n (pc := 737) hC dL_law_737 1 rfl rfl ?_
      refine pg_callVWi (pc := 738) (As := []) (rest := []) hC dL_law_738 (cX4_wipe_c l hok ) (cwV 0 hC.2.2.2.2.1 gL_law_X4_wipe rfl rfl rfl (by decide +kernel) ⟨Nat.le_of_ble_eq_true rfl, Nat.le_of_ble_eq_true rfl⟩) (ok_mem hok (by decide)) (ok_Xo hok) rfl rfl rfl rfl (Nat.le_of_ble_eq_true rfl) (Nat.le_of_ble_eq_true rfl) (Nat.le_of_ble_eq_true rfl) (fun fc hokc => ?_)
      have hokr : pv_ok κ x L3 fc (va_up (va_up Z 9 (zu (Z 9) 1 0 0)) 11 (Z 11)) := by have q := ogI hokc 11; rw [(va_up_ne _ _ (by decide) : va_up Z 9 (zu (Z 9) 1 0 0) 11 = Z 11)] at q; exact q
      refine pg_aload_n (pc := 741) hC dL_law_741 2 rfl rfl ?_
      refine pg_callVWi (pc := 742) (As := []) (rest := [.int (Z 9 1 0)]) hC dL_law_742 (cX5_wipe_c l hokr  ) (cwV 0 hC.2.2.2.2.1 gL_law_X5_wipe rfl rfl rfl (by decide +kernel) ⟨Nat.le_of_ble_eq_true rfl, Nat.le_of_ble_eq_true rfl⟩) (ok_mem hokr (by decide)) (ok_Mo hokr) rfl rfl rfl rfl (Nat.le_of_ble_eq_true rfl) (Nat.le_of_ble_eq_true rfl) (Nat.le_of_ble_eq_true rfl) (fun fd hokd => ?_)
      refine pg_icmp_eq (pc := 745) hC 822 dL_law_745 (by decide) (fun _ => ?_) (fun c37 => False.elim (c37 (hpl.trans hgp.symm)))
      refine pg_iinc (pc := 822) (v := nI (i + 5)) (vs' := [(3, .int (nI (i + 5))), (0, .ref (b)), (1, .ref (x 12 2)), (2, .ref (x 11 2))]) hC dL_law_822 3 rfl (nI_add i 5) (by decide) rfl ?_
      refine pg_goto (pc := 825) hC 18 dL_law_825 (by decide) ?_
      refine pg_sub (vs' := [(0, .ref (b)), (1, .ref (x 12 2)), (2, .ref (x 11 2)), (3, .int (nI (i + 5)))]) [1, 2, 3, 0] rfl ?_
      exact ih (i + 5, fd, va_up (va_up Z 9 (zu (Z 9) 1 0 0)) 11 (zu (Z 11) 6 0 0)) ⟨by omega, hokd, ⟨n, nx, kp, 0, J_wipe hJ⟩⟩ (show N + 5 - (i + 5) < N + 5 - i by omega)
    · skip
      have c38 : (xs i) &&& 31 = 18 := hxj
      refine pg_tabIn (pc := 32) hC 750 dL_law_32 (by rw [c38]; decide) (by rw [c38]; decide) (by rw [c38]; rfl) (by decide) ?_
      refine pg_aload_n (pc := 750) hC dL_law_750 1 rfl rfl ?_
      refine pg_callVWi (pc := 751) (As := []) (rest := []) hC dL_law_751 (cX4_fault_c l hok pl hpl hpl60 ) (cwV 0 hC.2.2.2.2.1 gL_law_X4_fault rfl rfl rfl (by decide +kernel) ⟨Nat.le_of_ble_eq_true rfl, Nat.le_of_ble_eq_true rfl⟩) (ok_mem hok (by decide)) (ok_Xo hok) rfl rfl rfl rfl (Nat.le_of_ble_eq_true rfl) (Nat.le_of_ble_eq_true rfl) (Nat.le_of_ble_eq_true rfl) (fun fc hokc => ?_)
      have hokr : pv_ok κ x L3 fc (va_up (va_up Z 10 (tFault Z pl).2) 11 (Z 11)) := by have q := ogI hokc 11; rw [(va_up_ne _ _ (by decide) : va_up Z 10 (tFault Z pl).2 11 = Z 11)] at q; exact q
      refine pg_aload_n (pc := 754) hC dL_law_754 2 rfl rfl ?_
      refine pg_callVEi (pc := 755) (As := []) (rest := [.int ((tFault Z pl).1)]) hC dL_law_755 (cX5_fault_c l hokr (ch := Z 11 5) rfl hgp hpl60 (r0 := rBegin (Z 10)) rfl rfl ) (cwV 0 hC.2.2.2.2.1 gL_law_X5_fault rfl rfl rfl (by decide +kernel) ⟨Nat.le_of_ble_eq_true rfl, Nat.le_of_ble_eq_true rfl⟩) (ok_mem hokr (by decide)) (ok_Mo hokr) rfl rfl rfl rfl (Nat.le_of_ble_eq_true rfl) (Nat.le_of_ble_eq_true rfl) (Nat.le_of_ble_eq_true rfl) (fun r fd Zd hokd hph => ?_)
      obtain ⟨hv, g2, rfl, hm⟩ := hph
      refine pg_icmp_eq (pc := 758) hC 822 dL_law_758 (by decide) (fun _ => ?_) (fun c39 => False.elim (c39 (hv.trans (fault_eq hJ)).symm))
      refine pg_iinc (pc := 822) (v := nI (i + 5)) (vs' := [(3, .int (nI (i + 5))), (0, .ref (b)), (1, .ref (x 12 2)), (2, .ref (x 11 2))]) hC dL_law_822 3 rfl (nI_add i 5) (by decide) rfl ?_
      refine pg_goto (pc := 825) hC 18 dL_law_825 (by decide) ?_
      refine pg_sub (vs' := [(0, .ref (b)), (1, .ref (x 12 2)), (2, .ref (x 11 2)), (3, .int (nI (i + 5)))]) [1, 2, 3, 0] rfl ?_
      exact ih (i + 5, fd, va_up (va_up Z 10 (tFault Z pl).2) 11 g2) ⟨by omega, hokd, ⟨n, nx, kp, pl, J_fault hJ hm⟩⟩ (show N + 5 - (i + 5) < N + 5 - i by omega)
    · skip
      have c40 : (xs i) &&& 31 = 19 := hxj
      refine pg_tabIn (pc := 32) hC 763 dL_law_32 (by rw [c40]; decide) (by rw [c40]; decide) (by rw [c40]; rfl) (by decide) ?_
      refine pg_aload_n (pc := 763) hC dL_law_763 1 rfl rfl ?_
      refine pg_callVWi (pc := 764) (As := []) (rest := []) hC dL_law_764 (cX4_undo_c l hok nx kp hnx hnx6 hkp hkp6 ) (cwV 0 hC.2.2.2.2.1 gL_law_X4_undo rfl rfl rfl (by decide +kernel) ⟨Nat.le_of_ble_eq_true rfl, Nat.le_of_ble_eq_true rfl⟩) (ok_mem hok (by decide)) (ok_Xo hok) rfl rfl rfl rfl (Nat.le_of_ble_eq_true rfl) (Nat.le_of_ble_eq_true rfl) (Nat.le_of_ble_eq_true rfl) (fun fc hokc => ?_)
      have hokr : pv_ok κ x L3 fc (va_up (tUndoZ Z nx kp) 11 (Z 11)) := by have q := ogI hokc 11; rw [(J_undo hJ).1] at q; exact q
      refine pg_aload_n (pc := 767) hC dL_law_767 2 rfl rfl ?_
      refine pg_callVWi (pc := 768) (As := []) (rest := [.int (tUndo kp)]) hC dL_law_768 (cX5_undo_c l hokr kp hsn hkp6 ) (cwV 0 hC.2.2.2.2.1 gL_law_X5_undo rfl rfl rfl (by decide +kernel) ⟨Nat.le_of_ble_eq_true rfl, Nat.le_of_ble_eq_true rfl⟩) (ok_mem hokr (by decide)) (ok_Mo hokr) rfl rfl rfl rfl (Nat.le_of_ble_eq_true rfl) (Nat.le_of_ble_eq_true rfl) (Nat.le_of_ble_eq_true rfl) (fun fd hokd => ?_)
      refine pg_icmp_eq (pc := 771) hC 822 dL_law_771 (by decide) (fun _ => ?_) (fun c41 => False.elim (c41 rfl))
      refine pg_iinc (pc := 822) (v := nI (i + 5)) (vs' := [(3, .int (nI (i + 5))), (0, .ref (b)), (1, .ref (x 12 2)), (2, .ref (x 11 2))]) hC dL_law_822 3 rfl (nI_add i 5) (by decide) rfl ?_
      refine pg_goto (pc := 825) hC 18 dL_law_825 (by decide) ?_
      refine pg_sub (vs' := [(0, .ref (b)), (1, .ref (x 12 2)), (2, .ref (x 11 2)), (3, .int (nI (i + 5)))]) [1, 2, 3, 0] rfl ?_
      exact ih (i + 5, fd, va_up (tUndoZ Z nx kp) 11 (if kp = 0 then Z 11 else mUnd (Z 11) kp)) ⟨by omega, hokd, (let ⟨n1, x1, k1, h⟩ := (J_undo hJ).2; ⟨n1, x1, k1, pl, h⟩)⟩ (show N + 5 - (i + 5) < N + 5 - i by omega)
    · skip
      have c42 : (xs i) &&& 31 = 20 := hxj
      refine pg_tabIn (pc := 32) hC 776 dL_law_32 (by rw [c42]; decide) (by rw [c42]; decide) (by rw [c42]; rfl) (by decide) ?_
      refine pg_aload_n (pc := 776) hC dL_law_776 1 rfl rfl ?_
      refine pg_aload_n (pc := 777) hC dL_law_777 0 rfl rfl ?_
      refine pg_iload_n (pc := 778) hC dL_law_778 3 rfl rfl ?_
      refine pg_iconst (pc := 779) (v := 1) hC dL_law_779 (by decide) ?_
      refine pg_iadd (pc := 780) (v := nI (i + 1)) hC dL_law_780 (nI_add (i) (1)) ?_
      refine pg_sld (pc := 781) hC hX hbl hbA (i + 1) rfl (by omega) (by omega) dL_law_781 ?_
      refine pg_callVWi (pc := 782) (As := [.int (xs (i + 1))]) (rest := []) hC dL_law_782 (cX4_save_c l hok (xs (i + 1))) (cwV 1 hC.2.2.2.2.1 gL_law_X4_save rfl rfl rfl (by decide +kernel) ⟨Nat.le_of_ble_eq_true rfl, Nat.le_of_ble_eq_true rfl⟩) (ok_mem hok (by decide)) (ok_Xo hok) rfl rfl rfl rfl (Nat.le_of_ble_eq_true rfl) (Nat.le_of_ble_eq_true rfl) (Nat.le_of_ble_eq_true rfl) (fun fc hokc => ?_)
      have hokr : pv_ok κ x L3 fc (va_up (tSaveZ Z (xs (i + 1))) 11 (Z 11)) := by have q := ogI hokc 11; rw [(J_save (sl := (xs (i + 1))) hJ).1] at q; exact q
      refine pg_aload_n (pc := 785) hC dL_law_785 2 rfl rfl ?_
      refine pg_aload_n (pc := 786) hC dL_law_786 0 rfl rfl ?_
      refine pg_iload_n (pc := 787) hC dL_law_787 3 rfl rfl ?_
      refine pg_iconst (pc := 788) (v := 1) hC dL_law_788 (by decide) ?_
      refine pg_iadd (pc := 789) (v := nI (i + 1)) hC dL_law_789 (nI_add (i) (1)) ?_
      refine pg_sld (pc := 790) hC hX hbl hbA (i + 1) rfl (by omega) (by omega) dL_law_790 ?_
      refine pg_callVWi (pc := 791) (As := [.int (xs (i + 1))]) (rest := [.int (tSave (Z 0) (xs (i + 1)))]) hC dL_law_791 (cX5_save_c l hokr  (xs (i + 1))) (cwV 1 hC.2.2.2.2.1 gL_law_X5_save rfl rfl rfl (by decide +kernel) ⟨Nat.le_of_ble_eq_true rfl, Nat.le_of_ble_eq_true rfl⟩) (ok_mem hokr (by decide)) (ok_Mo hokr) rfl rfl rfl rfl (Nat.le_of_ble_eq_true rfl) (Nat.le_of_ble_eq_true rfl) (Nat.le_of_ble_eq_true rfl) (fun fd hokd => ?_)
      refine pg_icmp_eq (pc := 794) hC 822 dL_law_794 (by decide) (fun _ => ?_) (fun c43 => False.elim (c43 (J_save hJ).2.1))
      refine pg_iinc (pc := 822) (v := nI (i + 5)) (vs' := [(3, .int (nI (i + 5))), (0, .ref (b)), (1, .ref (x 12 2)), (2, .ref (x 11 2))]) hC dL_law_822 3 rfl (nI_add i 5) (by decide) rfl ?_
      refine pg_goto (pc := 825) hC 18 dL_law_825 (by decide) ?_
      refine pg_sub (vs' := [(0, .ref (b)), (1, .ref (x 12 2)), (2, .ref (x 11 2)), (3, .int (nI (i + 5)))]) [1, 2, 3, 0] rfl ?_
      exact ih (i + 5, fd, va_up (tSaveZ Z (xs (i + 1))) 11 (if bW (xs (i + 1)) 0 1 = 0 then Z 11 else mSav (Z 11) (cl (xs (i + 1))))) ⟨by omega, hokd, ⟨n, nx, kp, pl, (J_save hJ).2.2⟩⟩ (show N + 5 - (i + 5) < N + 5 - i by omega)
    · skip
      have c44 : (xs i) &&& 31 = 21 := hxj
      refine pg_tabIn (pc := 32) hC 799 dL_law_32 (by rw [c44]; decide) (by rw [c44]; decide) (by rw [c44]; rfl) (by decide) ?_
      refine pg_aload_n (pc := 799) hC dL_law_799 1 rfl rfl ?_
      refine pg_aload_n (pc := 800) hC dL_law_800 0 rfl rfl ?_
      refine pg_iload_n (pc := 801) hC dL_law_801 3 rfl rfl ?_
      refine pg_iconst (pc := 802) (v := 1) hC dL_law_802 (by decide) ?_
      refine pg_iadd (pc := 803) (v := nI (i + 1)) hC dL_law_803 (nI_add (i) (1)) ?_
      refine pg_sld (pc := 804) hC hX hbl hbA (i + 1) rfl (by omega) (by omega) dL_law_804 ?_
      refine pg_callVWi (pc := 805) (As := [.int (xs (i + 1))]) (rest := []) hC dL_law_805 (cX4_restore_c l hok nx kp hnx hnx6 hkp hkp6 (xs (i + 1))) (cwV 1 hC.2.2.2.2.1 gL_law_X4_restore rfl rfl rfl (by decide +kernel) ⟨Nat.le_of_ble_eq_true rfl, Nat.le_of_ble_eq_true rfl⟩) (ok_mem hok (by decide)) (ok_Xo hok) rfl rfl rfl rfl (Nat.le_of_ble_eq_true rfl) (Nat.le_of_ble_eq_true rfl) (Nat.le_of_ble_eq_true rfl) (fun fc hokc => ?_)
      have hokr : pv_ok κ x L3 fc (va_up (tRestoreZ Z nx kp (xs (i + 1))) 11 (Z 11)) := by have q := ogI hokc 11; rw [(J_restore (sl := (xs (i + 1))) hJ).1] at q; exact q
      refine pg_aload_n (pc := 808) hC dL_law_808 2 rfl rfl ?_
      refine pg_aload_n (pc := 809) hC dL_law_809 0 rfl rfl ?_
      refine pg_iload_n (pc := 810) hC dL_law_810 3 rfl rfl ?_
      refine pg_iconst (pc := 811) (v := 1) hC dL_law_811 (by decide) ?_
      refine pg_iadd (pc := 812) (v := nI (i + 1)) hC dL_law_812 (nI_add (i) (1)) ?_
      refine pg_sld (pc := 813) hC hX hbl hbA (i + 1) rfl (by omega) (by omega) dL_law_813 ?_
      refine pg_callVWi (pc := 814) (As := [.int (xs (i + 1))]) (rest := [.int (tRestore Z nx kp (xs (i + 1)))]) hC dL_law_814 (cX5_restore_c l hokr kp hsn hkp6 (xs (i + 1))) (cwV 1 hC.2.2.2.2.1 gL_law_X5_restore rfl rfl rfl (by decide +kernel) ⟨Nat.le_of_ble_eq_true rfl, Nat.le_of_ble_eq_true rfl⟩) (ok_mem hokr (by decide)) (ok_Mo hokr) rfl rfl rfl rfl (Nat.le_of_ble_eq_true rfl) (Nat.le_of_ble_eq_true rfl) (Nat.le_of_ble_eq_true rfl) (fun fd hokd => ?_)
      refine pg_icmp_eq (pc := 817) hC 822 dL_law_817 (by decide) (fun _ => ?_) (fun c45 => False.elim (c45 (J_restore hJ).2.1))
      refine pg_iinc (pc := 822) (v := nI (i + 5)) (vs' := [(3, .int (nI (i + 5))), (0, .ref (b)), (1, .ref (x 12 2)), (2, .ref (x 11 2))]) hC dL_law_822 3 rfl (nI_add i 5) (by decide) rfl ?_
      refine pg_goto (pc := 825) hC 18 dL_law_825 (by decide) ?_
      refine pg_sub (vs' := [(0, .ref (b)), (1, .ref (x 12 2)), (2, .ref (x 11 2)), (3, .int (nI (i + 5)))]) [1, 2, 3, 0] rfl ?_
      exact ih (i + 5, fd, va_up (tRestoreZ Z nx kp (xs (i + 1))) 11 (if bW (xs (i + 1)) 0 1 = 0 then Z 11 else if Z 11 4 (cl (xs (i + 1))) = 0 then Z 11 else mRst (Z 11) kp (cl (xs (i + 1))))) ⟨by omega, hokd, (let ⟨n1, x1, k1, h⟩ := (J_restore hJ).2.2; ⟨n1, x1, k1, pl, h⟩)⟩ (show N + 5 - (i + 5) < N + 5 - i by omega)
  · skip
    refine pg_tabOut (pc := 32) hC 822 dL_law_32 c1 (by decide) ?_
    refine pg_iinc (pc := 822) (v := nI (i + 5)) (vs' := [(3, .int (nI (i + 5))), (0, .ref (b)), (1, .ref (x 12 2)), (2, .ref (x 11 2))]) hC dL_law_822 3 rfl (nI_add i 5) (by decide) rfl ?_
    refine pg_goto (pc := 825) hC 18 dL_law_825 (by decide) ?_
    refine pg_sub (vs' := [(0, .ref (b)), (1, .ref (x 12 2)), (2, .ref (x 11 2)), (3, .int (nI (i + 5)))]) [1, 2, 3, 0] rfl ?_
    exact ih (i + 5, f, Z) ⟨by omega, hok, ⟨n, nx, kp, pl, hJ⟩⟩ (show N + 5 - (i + 5) < N + 5 - i by omega)
