/-! ===== p25: the script's row, read by a method of its own; the block of save, undo, restore ===== -/
section PLAW
variable {κ : pv_Kt} {p : Program} {l : Launch} {e : Env} {R : Room} {s : State} {m : MethodId} {args : Array Value} {below : List Frame} {meth : Method} {c : Code} {Q : State → Prop} {A : Nat → Prop} {nL : Nat} {cells slots : Nat} {L : List Nat} {f : Nat → va_E} {pc : Nat} {vs : List (Nat × Value)} {st : List Value}
variable {y : MethodName} {cc : ByteArray} {Ts : List Cond} {rt : Option FieldType}
theorem pg_sld (hC : pv_C κ p R s m args meth c y cc nL Ts rt A) {b N : Nat} {xs : Nat → Int32} {i : Int32} (hX : va_X b N xs s s.heap) (hbl : b < s.heap.size) (hbA : ¬ A b) (j : Nat) (hi : i = nI j) (hj : j < N) (hN : N < 2 ^ 31) (hdg : decode cc pc = .ok (.iaload, 1)) (kk : pv_G κ p l e R s m args below meth c Q A nL cells slots L f (pc + 1) vs (.int (xs j) :: st)) : pv_G κ p l e R s m args below meth c Q A nL cells slots L f pc vs (.int i :: .ref b :: st) := fun H locs ls hP hD hS h => by
  subst hi
  refine va_sld hC.1 hC.2.1 hX hbl hbA hS (vp_in_nI hj hN) hdg ?_
  rw [nI_clamp (by omega)]
  exact kk H locs ls hP hD hS h
theorem pg_slen (hC : pv_C κ p R s m args meth c y cc nL Ts rt A) {b N : Nat} {xs : Nat → Int32} (hX : va_X b N xs s s.heap) (hbl : b < s.heap.size) (hbA : ¬ A b) (hdg : decode cc pc = .ok (.arraylength, 1)) (kk : pv_G κ p l e R s m args below meth c Q A nL cells slots L f (pc + 1) vs (.int (nI N) :: st)) : pv_G κ p l e R s m args below meth c Q A nL cells slots L f pc vs (.ref b :: st) := fun H locs ls hP hD hS h => va_slen hC.1 hC.2.1 hX hbl hbA hS hdg (kk H locs ls hP hD hS h)
end PLAW
/-- the script, as a method's start has it -/
def pv_X (b N : Nat) (xs : Nat → Int32) (A : Nat → Prop) (U : State) : Prop := va_X b N xs U U.heap ∧ b < U.heap.size ∧ ¬ A b
theorem pv_X.go {b N : Nat} {xs : Nat → Int32} {A B : Nat → Prop} {u U : State} (hvm : u.vm.Alike U.vm) (hq : ∀ a : Nat, a < u.heap.size → ¬ A a → U.heap[a]? = u.heap[a]?) (hAB : ∀ q, q < u.heap.size → B q → A q) (h : pv_X b N xs A u) : pv_X b N xs B U := by
  obtain ⟨⟨scr, h1, h2, h3⟩, h4, h5⟩ := h
  have g1 : U.heap[b]? = some scr := (hq b h4 h5).trans h1
  exact ⟨⟨scr, g1, State.isArrayOf_alike hvm h2, h3⟩, (Array.getElem?_eq_some_iff.mp g1).1, fun z => h5 (hAB b h4 z)⟩
/-- a contract beside the script: the answer is a number of 31 bits, nothing changes -/
def pv_PX (L : List Nat) (f : Nat → va_E) : Int32 → List Nat × (Nat → va_E) → Prop := fun r u => u = (L, f) ∧ ∃ j : Nat, j < 2 ^ 31 ∧ r = nI j
def pv_MX (l : Launch) (κ : pv_Kt) (y : MethodName) (ws : List Cond) (rm : Room) (L : List Nat) (f : Nat → va_E) (av : List Value) (b N : Nat) (xs : Nat → Int32) : Prop := ∀ sz : Nat, Met l y ws rm (va_Pc av (fun U => pv_P κ L f sz U ∧ pv_X b N xs (va_A (va_pl L f) sz) U)) (va_Qi (pv_PX L f) (pv_B κ (va_A (va_pl L f) sz)) (va_A (va_pl L f) sz)) 0 0 (va_A (va_pl L f) sz)
theorem pv_startX {l : Launch} {κ : pv_Kt} {y : MethodName} {ws ws' : List Cond} {rm : Room} {L : List Nat} {f : Nat → va_E} {av : List Value} {b N : Nat} {xs : Nat → Int32} {cc : ByteArray} {maxL : Nat} {ret : Option FieldType} (hy : plainName y.cls = true) (hw : ws = Cond.code y cc maxL ret :: ws') (hlen : (lg_sl av).length ≤ maxL)
    (body : ∀ (A : Nat → Prop) (p : Program) (e : Env) (s : State) (m : MethodId) (args : Array Value) (below : List Frame) (meth : Method) (c : Code), pv_C κ p rm s m args meth c y cc maxL ws ret A → pv_X b N xs A s → pv_G κ p l e rm s m args below meth c (MQ below (va_Qi (pv_PX L f) (pv_B κ A) A) args s 0 0 A) A maxL 0 0 L f 0 (lv_args 0 av) []) : pv_MX l κ y ws rm L f av b N xs := by
  intro sz
  refine Met.ofW (cc := cc) (maxL := maxL) (ret := ret) hy hw ?_
  intro p e s m args below meth c s₁ B hml hv
  obtain ⟨rfl, ⟨hsz, hP, hK, hD0, hT⟩, hX⟩ := hv
  subst hsz
  have hn := name_of_methodNamed B.named B.method
  have C : pv_C κ p rm s m av.toArray meth c y cc maxL ws ret (va_A (va_pl L f) s.heap.size) := ⟨B.exec, B.bytes, hml, findClass_of_methodNamed B.named, atoms_spec (ws := ws) B.pre, B.returns, B.notSynchronized, hK, fun q h => Or.inr h, hT, hn.1⟩
  rw [lg_entry_eq]
  exact body _ p e s m _ below meth c C hX s.heap [] _ hP (hD0.self (sz := s.heap.size)) va_S.rf (lv_entry av hlen)
section PVCX
variable {κ : pv_Kt} {p : Program} {l : Launch} {e : Env} {R : Room} {s : State} {m : MethodId} {args : Array Value} {below : List Frame} {meth : Method} {c : Code} {Q : State → Prop} {A : Nat → Prop} {nL : Nat} {cells slots : Nat} {L : List Nat} {f : Nat → va_E} {pc : Nat} {vs : List (Nat × Value)} {st : List Value}
variable {y : MethodName} {cc : ByteArray} {Ts : List Cond} {rt : Option FieldType}
theorem pv_blindX {sz : Nat} {av : List Value} {b N : Nat} {xs : Nat → Int32} : FrameBlind (va_Pc av (fun U => pv_P κ L f sz U ∧ pv_X b N xs (va_A (va_pl L f) sz) U)) := by
  intro a U g mk hh
  obtain ⟨h1, h2, h3⟩ := hh
  have hb := (pv_blind (κ := κ) (L := L) (f := f) (sz := sz) (av := av)) a U g mk ⟨h1, h2⟩
  exact ⟨hb.1, hb.2, h3.go (U := U.calling g mk a) (Vm.Alike.refl U.vm) (fun _ _ _ => rfl) (fun _ _ h => h)⟩
theorem pg_callX (hC : pv_C κ p R s m args meth c y cc nL Ts rt A) {y2 : MethodName} {ws2 : List Cond} {rm2 : Room} {bytes : ByteArray} {maxL : Nat} {ret : Option FieldType} {n index b N : Nat} {xs : Nat → Int32} {As rest : List Value} (hdg : decode cc pc = .ok (.invokestatic index, 3)) (hXs : pv_X b N xs A s) (hM : pv_MX l κ y2 ws2 rm2 L f As b N xs) (cw : CallB R s args y.cls index y2 bytes maxL ret ws2 rm2 0 0 n ∧ (Cond.static y2).before args s = true) (hn : As.length = n) (hst : st = As.reverse ++ rest) (hWt : (rest.map fun v => v.category).sum ≤ 8) (hc : cells ≤ R.cells) (hs : slots ≤ R.slots) (kk : ∀ X : Nat, X < 2 ^ 31 → pv_G κ p l e R s m args below meth c Q A nL cells slots L f (pc + 3) vs (.int (nI X) :: rest)) : pv_G κ p l e R s m args below meth c Q A nL cells slots L f pc vs st := fun H locs ls hP hD hS h => by
  subst hst
  refine va_calli (va_runS (As := As) (rest := rest) ⟨hC.1, hC.2.1, hC.2.2.1, hC.2.2.2.1, hC.2.2.2.2.1⟩ (hM H.size) cw ⟨pv_blindX, fun U hU hW => ⟨rfl, pv_pre hC.2.2.2.2.2.2.2.2.1 hC.2.2.2.2.2.2.2.1 hC.2.2.2.2.2.2.2.2.2.1 hP hD hS hU hW, hXs.go hW.alike (fun a h1 h2 => by rw [hU]; exact hS.2.1 a h1 h2) (fun q _ h => pv_A_in hC.2.2.2.2.2.2.2.2.1 hD hS q h)⟩⟩ rfl hn h.1 rfl (by show 2 * 0 + _ ≤ 8; omega) hdg ⟨hc, hs⟩) hS (fun q _ z => pv_A_in hC.2.2.2.2.2.2.2.2.1 hD hS q z) (pv_A_in hC.2.2.2.2.2.2.2.2.1 hD hS) (fun r u t H1 locs1 ht hvm hw hB hz hk hS1 => ?_)
  obtain ⟨hP1, -, hD1⟩ := hB
  obtain ⟨rfl, X, hX, rfl⟩ := hw
  rw [ht] at hP1
  exact kk X hX H1 locs1 ls hP1 (hD1.weaken (fun _ q _ z => pv_A_in hC.2.2.2.2.2.2.2.2.1 hD hS q.1 z)) hS1 h
end PVCX
section BLK
variable {Z Y Z5 : Nat → Nat → Nat → Int32} {z2 y7 w : Nat → Nat → Int32} {n n2 nx kp nx1 kp1 nx2 kp2 K K1 : Nat}
theorem RS.trans {Z1 Z2 : Nat → Nat → Nat → Int32} (h : RS Z Z1) (h2 : RS Z1 Z2) : RS Z Z2 := ⟨fun i a b => (h2.1 i a b).trans (h.1 i a b), h2.2⟩
theorem blk1 (h : JV Z n nx kp K) (r : RS (va_up (sKeep Z nx kp) 0 z2) Y) (e1 : nx1 = (nx + 1) % 6) (e2 : kp1 = min 6 (kp + 1)) (hJ : JV Y n2 nx1 kp1 (K + 1)) : sm (sBack (zSv Y) nx1 kp1 0) (Z 0) ∧ JV (sBack (zSv Y) nx1 kp1) n ((nx1 + 6 - 1) % 6) (kp1 - 1) (K + 1) ∧ sBack (zSv Y) nx1 kp1 12 4 0 = 1 ∧ sBack (zSv Y) nx1 kp1 7 = sBec (Y 7) (Y 0) := by
  have a1 := h.2.1.1
  have s0 : sm (sBack (zSv Y) nx1 kp1 0) (Z 0) := by
    rw [sB_0, show (nx1 + 6 - 1) % 6 = nx by omega, zSv_o (i := 1 + nx) (by omega), r.1 (1 + nx) (by omega) (by omega), va_up_ne _ _ (show 1 + nx ≠ 0 by omega), sK_e Z kp a1]
    exact sm_bec.trans sm_bec
  refine ⟨s0, JV_back (JV_save hJ) (by omega) ((h.1.mono (Nat.le_succ K)).sm s0.symm), ?_, ?_⟩
  · rw [sB_12]
    show zSv Y 12 4 0 = 1
    rw [zSv_12, zu_ee]
  · rw [sB_o _ _ _ (by decide), zSv_7]
theorem blk2 (h5 : JV Z5 n nx2 kp2 K1) (hs : Z5 12 4 0 = 1) (h7 : Z5 7 = sBec y7 w) (hw : IV w n2 K1) : (tRestore Z5 nx2 kp2 0 = w 14 0 ∧ tRestoreZ Z5 nx2 kp2 0 = va_up (sKeep Z5 nx2 kp2) 0 (sBec (Z5 0) (Z5 7))) ∧ sm (va_up (sKeep Z5 nx2 kp2) 0 (sBec (Z5 0) (Z5 7)) 0) w ∧ JV (va_up (sKeep Z5 nx2 kp2) 0 (sBec (Z5 0) (Z5 7))) n2 ((nx2 + 1) % 6) (min 6 (kp2 + 1)) K1 := by
  have s1 : sm (sBec (Z5 0) (Z5 7)) w := by rw [h7]; exact sm_bec.trans sm_bec
  obtain ⟨r1, r2⟩ := tRest0 (Z := Z5) (nx := nx2) (kp := kp2) (sl := 0) (j := 0) (by decide) rfl hs h5.2.1.1
  refine ⟨⟨r1.trans ?_, r2⟩, by rw [va_up_e]; exact s1, JV_keep h5 (hw.sm s1.symm) (Nat.le_refl _)⟩
  show Z5 7 14 0 = w 14 0
  rw [h7]; exact sBec_at (k := 14) (i := 0) rfl
theorem blk3 (h : JV Z n nx kp K) : (tRestore Z nx kp 1 = 0 ∧ tRestoreZ Z nx kp 1 = va_up (sKeep Z nx kp) 0 (sBec (Z 0) (Z 8))) ∧ JV (va_up (sKeep Z nx kp) 0 (sBec (Z 0) (Z 8))) 0 ((nx + 1) % 6) (min 6 (kp + 1)) K := by
  obtain ⟨s1, s2, s3⟩ := h.2.2.2.1
  obtain ⟨r1, r2⟩ := tRest0 (Z := Z) (nx := nx) (kp := kp) (sl := 1) (j := 1) (by decide) rfl s1 h.2.1.1
  exact ⟨⟨r1.trans s3, r2⟩, JV_keep h ((s2.mono (Nat.zero_le K)).sm sm_bec.symm) (Nat.le_refl _)⟩
end BLK
abbrev rmL_cell : Room := { frames := 0, cells := 0, slots := 0, locals := 0 }
set_option maxHeartbeats 2000000 in
set_option maxRecDepth 20000 in
theorem cL_cell_c (l : Launch) {κ : pv_Kt} {L : List Nat} {f : Nat → va_E} {b N : Nat} {xs : Nat → Int32} (hN : N ≤ 260) (i : Nat) (hi : i < 1000)  : pv_MX l κ yL_cell wsL_cell rmL_cell L f [.ref b, .int (nI i)] b N xs := by
  refine pv_startX (cc := cL_cell) (maxL := 2) (ret := some .int) (by decide) rfl (Nat.le_of_ble_eq_true rfl) (fun A0 P0 E0 S0 M0 a0 B0 T0 C0 hC hX => ?_)
  refine pg_sub (vs' := [(0, .ref b), (1, .int (nI i))]) [0, 1] rfl ?_
  refine pg_iload_n (pc := 0) hC dL_cell_0 1 rfl rfl ?_
  refine pg_aload_n (pc := 1) hC dL_cell_1 0 rfl rfl ?_
  refine pg_slen (pc := 2) hC hX.1 hX.2.1 hX.2.2 dL_cell_2 ?_
  refine pg_icmp_geN (pc := 3) hC 12 dL_cell_3 (by decide) (i) (N) rfl rfl (by omega) (by omega) (fun c1 => ?_) (fun c1 => ?_)
  · skip
    refine pg_ldc (pc := 12) (v := 431585810) hC dL_cell_12 (List.mem_of_getElem? (i := 1) rfl) ?_
    refine pg_iload_n (pc := 14) hC dL_cell_14 1 rfl rfl ?_
    refine pg_sipush (pc := 15) (v := 439) hC dL_cell_15 (by decide) ?_
    refine pg_iadd (pc := 18) (v := nI (i + 439)) hC dL_cell_18 (nI_add (i) (439)) ?_
    refine pg_imul (pc := 19) (v := 431585810 * (nI (i + 439))) hC dL_cell_19 rfl ?_
    refine pg_ldc (pc := 20) (v := 80021) hC dL_cell_20 (List.mem_of_getElem? (i := 2) rfl) ?_
    refine pg_iadd (pc := 22) (v := (431585810 * (nI (i + 439))) + 80021) hC dL_cell_22 rfl ?_
    refine pg_ldc (pc := 23) (v := 2147483647) hC dL_cell_23 (List.mem_of_getElem? (i := 3) rfl) ?_
    refine pg_iand (pc := 25) (v := ((431585810 * (nI (i + 439))) + 80021) &&& 2147483647) hC dL_cell_25 rfl ?_
    obtain ⟨j, hj, ej⟩ := pk_andE ((431585810 * (nI (i + 439))) + 80021) 31 (m := 2147483647) (by decide)
    exact pg_iret (pc := 26) hC dL_cell_26 rfl ⟨rfl, j, hj, ej⟩
  · skip
    refine pg_aload_n (pc := 6) hC dL_cell_6 0 rfl rfl ?_
    refine pg_iload_n (pc := 7) hC dL_cell_7 1 rfl rfl ?_
    refine pg_sld (pc := 8) hC hX.1 hX.2.1 hX.2.2 (i) rfl (by omega) (by omega) dL_cell_8 ?_
    refine pg_goto (pc := 9) hC 23 dL_cell_9 (by decide) ?_
    refine pg_ldc (pc := 23) (v := 2147483647) hC dL_cell_23 (List.mem_of_getElem? (i := 3) rfl) ?_
    refine pg_iand (pc := 25) (v := (xs i) &&& 2147483647) hC dL_cell_25 rfl ?_
    obtain ⟨j, hj, ej⟩ := pk_andE (xs i) 31 (m := 2147483647) (by decide)
    exact pg_iret (pc := 26) hC dL_cell_26 rfl ⟨rfl, j, hj, ej⟩
