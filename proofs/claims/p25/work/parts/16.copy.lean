section PVCP
variable {κ : pv_Kt} {p : Program} {l : Launch} {e : Env} {R : Room} {s : State} {m : MethodId} {args : Array Value} {below : List Frame} {meth : Method} {c : Code} {Q : State → Prop} {A : Nat → Prop} {nL : Nat} {cells slots : Nat} {L : List Nat} {f : Nat → va_E} {pc : Nat} {vs : List (Nat × Value)} {st : List Value}
variable {y : MethodName} {cc : ByteArray} {Ts : List Cond} {rt : Option FieldType}
/-- a row of ints is copied into another of the pool -/
theorem pg_copyi (hC : pv_C κ p R s m args meth c y cc nL Ts rt A) {index a0 a n0 n1 : Nat} {r0 r1 : Nat → Int32} (hdg : decode cc pc = .ok (.invokestatic index, 3)) (h1 : Cond.methodLink y.cls index arraycopyName ∈ Ts) (h2 : Cond.native arraycopyName ∈ Ts) (h3 : Cond.static arraycopyName ∈ Ts) (h4 : Cond.initialized "java/lang/System" ∈ Ts) (hL0 : a0 ∈ L) (hf0 : f a0 = .inl (κ.2.1 1, n0, .inl r0)) (hL1 : a ∈ L) (hf1 : f a = .inl (κ.2.1 1, n1, .inl r1)) (n : Nat) (hn0 : n ≤ n0) (hn1 : n ≤ n1) (hnb : n < 2 ^ 31) (hfr : 1 ≤ R.frames) (hlo : (st.map fun v => v.category).sum + (nativeFrameWords "java/lang/System" "arraycopy" 5 + 11) ≤ R.locals) (kk : pv_G κ p l e R s m args below meth c Q A nL cells slots L (va_up f a (.inl (κ.2.1 1, n1, .inl (va_cpy r0 r1 0 0 n)))) (pc + 3) vs st) : pv_G κ p l e R s m args below meth c Q A nL cells slots L f pc vs (.int (nI n) :: .int 0 :: .ref a :: .int 0 :: .ref a0 :: st) := fun H locs ls hP hD hS h => by
  obtain ⟨q0, hq0⟩ := pv_at (D := κ.1) (H := H) hL0 hf0
  obtain ⟨q1, hq1⟩ := pv_at (D := κ.1) (H := H) hL1 hf1
  have e1 : (nI n).toNatClampNeg = n := nI_clamp hnb
  have e0 : (0 : Int32).toNatClampNeg = 0 := rfl
  refine va_copyi hC.1 hC.2.1 (hC.2.2.1.trans h.1.symm) hC.2.2.2.1 (hC.2.2.2.2.1 _ h1) (hC.2.2.2.2.1 _ h2) (hC.2.2.2.2.1 _ h3) (hC.2.2.2.2.1 _ h4) hC.2.2.2.2.2.2.2.1 hP hD hS q0 q1 1 1 hq0 hq1 rfl rfl rfl (by decide) (by decide) (nI_pos hnb) (by rw [e1, e0]; omega) (by rw [e1, e0]; omega) (fun _ _ => rfl) hfr hlo hdg (fun H1 locs1 hP1 hD1 hS1 => ?_)
  rw [pv_set hD hL1 hf1 hq1, e1, e0] at hP1 hD1
  exact kk H1 locs1 ls hP1 hD1 hS1 h
theorem pg_callSNx (hC : pv_C κ p R s m args meth c y cc nL Ts rt A) {y2 : MethodName} {ws2 : List Cond} {rm2 : Room} {bytes : ByteArray} {maxL : Nat} {ret : Option FieldType} {n index : Nat} {host : String} {As rest : List Value} {g : Nat → va_E} (hdg : decode cc pc = .ok (.invokestatic index, 3)) (hM : pv_Mv l κ y2 ws2 rm2 L f As 0 0 (fun u => u = (L, g))) (cw : va_CN R s args y.cls index y2 host bytes maxL ret ws2 rm2 0 0 n ∧ (Cond.static y2).before args s = true ∧ True) (hn : As.length = n) (hst : st = As.reverse ++ rest) (hWt : (rest.map fun v => v.category).sum ≤ 8) (hc : cells ≤ R.cells) (hs : slots ≤ R.slots) (kk : pv_G κ p l e R s m args below meth c Q A nL cells slots L g (pc + 3) vs rest) : pv_G κ p l e R s m args below meth c Q A nL cells slots L f pc vs st := pg_callSNv hC hdg hM cw hn hst hWt ⟨hc, hs⟩ (fun u hu => by subst hu; exact kk)
end PVCP
abbrev rmX4_copy : Room := { frames := 1, cells := 0, slots := 0, locals := 40 }
set_option maxHeartbeats 2000000 in
set_option maxRecDepth 20000 in
theorem cX4_copy_c (l : Launch) {κ : pv_Kt} {L : List Nat} {f : Nat → va_E} {a0 a n : Nat} {r0 r1 : Nat → Int32} (hn : n < 2 ^ 31) (hL0 : a0 ∈ L) (hf0 : f a0 = .inl (κ.2.1 1, n, .inl r0)) (hL1 : a ∈ L) (hf1 : f a = .inl (κ.2.1 1, n, .inl r1)) : pv_Mv l κ yX4_copy wsX4_copy rmX4_copy L f [.ref a0, .ref a] 0 0 (fun u => u = (L, va_up f a (.inl (κ.2.1 1, n, .inl (va_cpy r0 r1 0 0 n))))) := by
  refine pv_startV (cc := cX4_copy) (maxL := 2) (ret := none) (by decide) rfl (Nat.le_of_ble_eq_true rfl) (fun A0 P0 E0 S0 M0 a9 B0 T0 C0 hC => ?_)
  refine pg_sub (vs' := [(0, .ref a0), (1, .ref a)]) [0, 1] rfl ?_
  refine pg_aload_n (pc := 0) hC dX4_copy_0 0 rfl rfl ?_
  refine pg_iconst (pc := 1) (v := 0) hC dX4_copy_1 (by decide) ?_
  refine pg_aload_n (pc := 2) hC dX4_copy_2 1 rfl rfl ?_
  refine pg_iconst (pc := 3) (v := 0) hC dX4_copy_3 (by decide) ?_
  refine pg_aload_n (pc := 4) hC dX4_copy_4 0 rfl rfl ?_
  refine pg_alen (pc := 5) (v := nI n) hC dX4_copy_5 1 rfl hL0 hf0 rfl ?_
  refine pg_aload_n (pc := 6) hC dX4_copy_6 1 rfl rfl ?_
  refine pg_alen (pc := 7) (v := nI n) hC dX4_copy_7 1 rfl hL1 hf1 rfl ?_
  refine pg_mmin (pc := 8) hC dX4_copy_8 (List.mem_of_getElem? (i := 1) rfl) (List.mem_of_getElem? (i := 2) rfl) (List.mem_of_getElem? (i := 3) rfl) (List.mem_of_getElem? (i := 4) rfl) (Nat.le_of_ble_eq_true rfl) (Nat.le_of_ble_eq_true rfl) (Nat.zero_le _) (Nat.zero_le _) ?_
  refine pg_top (pc := 11) (x' := nI n) (ite_self _) ?_
  refine pg_copyi (pc := 11) hC dX4_copy_11 (List.mem_of_getElem? (i := 5) rfl) (List.mem_of_getElem? (i := 6) rfl) (List.mem_of_getElem? (i := 7) rfl) (List.mem_of_getElem? (i := 8) rfl) hL0 hf0 hL1 hf1 n (Nat.le_refl _) (Nat.le_refl _) hn (Nat.le_of_ble_eq_true rfl) (Nat.le_of_ble_eq_true rfl) ?_
  exact pg_vret (pc := 14) hC dX4_copy_14 rfl rfl
def zc (z : Nat → Nat → Int32) (k : Nat) (row : Nat → Int32) : Nat → Nat → Int32 := va_up z k row
section PVCQ
variable {κ : pv_Kt} {p : Program} {l : Launch} {e : Env} {R : Room} {s : State} {m : MethodId} {args : Array Value} {below : List Frame} {meth : Method} {c : Code} {Q : State → Prop} {A : Nat → Prop} {nL : Nat} {cells slots : Nat} {L : List Nat} {f : Nat → va_E} {pc : Nat} {vs : List (Nat × Value)} {st : List Value}
variable {y : MethodName} {cc : ByteArray} {Ts : List Cond} {rt : Option FieldType} {x : Nat → Nat → Nat} {Z : Nat → Nat → Nat → Int32} {z : Nat → Nat → Int32} {i j : Nat}
/-- a row of one school into another's -/
theorem pgS_copy (hC : pv_C κ p R s m args meth c y cc nL Ts rt A) {index : Nat} {host : String} (hdg : decode cc pc = .ok (.invokestatic index, 3)) (k : Nat) {n : Nat} {r1 : Nat → Int32} (hok : pv_ok κ x L f (va_up Z i z)) (hi : i < 9) (hj : j < 9) (hji : j ≠ i) (hk : k < 14) (h1 : k ≠ 1) (hn : pv_sl k = n) (hr1 : z k = r1) (cw : va_CN R s args y.cls index yX4_copy host cX4_copy 2 none wsX4_copy rmX4_copy 0 0 2 ∧ (Cond.static yX4_copy).before args s = true ∧ True) (hWt : (st.map fun v => v.category).sum ≤ 8) (hc : cells ≤ R.cells) (hs : slots ≤ R.slots) (kk : ∀ f2 : Nat → va_E, pv_ok κ x L f2 (va_up Z i (zc z k (va_cpy (Z j k) r1 0 0 n))) → pv_G κ p l e R s m args below meth c Q A nL cells slots L f2 (pc + 3) vs st) : pv_G κ p l e R s m args below meth c Q A nL cells slots L f pc vs (.ref (x i k) :: .ref (x j k) :: st) := by
  subst hn; subst hr1
  have hj2 : f (x j k) = .inl (κ.2.1 1, pv_sl k, .inl (Z j k)) := by
    have h := ok_Sa hok hj k hk h1
    rw [va_up_ne _ _ hji] at h
    exact h
  exact pg_callSNx (As := [.ref (x j k), .ref (x i k)]) hC hdg (cX4_copy_c l (Nat.lt_of_le_of_lt (pv_sl_le k) (by decide)) (ok_Sm hok hj k hk) hj2 (ok_Sm hok hi k hk) (og_Sa hok hi k hk h1)) cw rfl rfl hWt hc hs (kk _ (og_u (okp_Sa hok hi hk h1 rfl)))
end PVCQ
