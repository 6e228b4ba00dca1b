/-! ===== what is made anew: the pool grows ===== -/
section PVNW
variable {κ : pv_Kt} {p : Program} {l : Launch} {e : Env} {R : Room} {s : State} {m : MethodId} {args : Array Value} {below : List Frame} {meth : Method} {c : Code} {Q : State → Prop} {A : Nat → Prop} {nL : Nat} {cells slots : Nat} {L : List Nat} {f : Nat → va_E} {pc : Nat} {vs : List (Nat × Value)} {st : List Value}
variable {y : MethodName} {cc : ByteArray} {Ts : List Cond} {rt : Option FieldType}
theorem pg_new (hC : pv_C κ p R s m args meth c y cc nL Ts rt A) {C2 : String} {T : u_T} {N ci index : Nat} (hdg : decode cc pc = .ok (.new index, 3)) (hin : ∀ w ∈ u_ws C2 T N, w ∈ Ts) (ty0 : Nat → FieldType) (hty : ∀ k, k < N → parseFieldDescriptor (T k).2.2.1 = some (ty0 k)) (hcl : vwCl[ci]? = some (C2, T, N)) (h1 : Cond.classLink y.cls index C2 ∈ Ts) (h2 : Cond.instantiable C2 N ∈ Ts) (h3 : Cond.initialized C2 ∈ Ts) {fs : List Value} (hfs : ∀ j, j < N → defaultValue (ty0 j) = vp_V fs j) (hcs : cells + 1 ≤ R.cells ∧ slots + N ≤ R.slots) (kk : ∀ q : Nat, q ∉ L → pv_G κ p l e R s m args below meth c Q A nL (cells + 1) (slots + N) (L ++ [q]) (va_up f q (.inr (ci, fs))) (pc + 3) vs (.ref q :: st)) : pv_G κ p l e R s m args below meth c Q A nL cells slots L f pc vs st := fun H locs ls hP hD hS h => by
  refine va_new hC.1 hC.2.1 hC.2.2.2.2.1 hin ty0 hty hC.2.2.2.1 (hC.2.2.2.2.1 _ h1) (hC.2.2.2.2.1 _ h2) (hC.2.2.2.2.1 _ h3) hC.2.2.2.2.2.2.2.1 hP hD hS hC.2.2.2.2.2.2.2.2.1 hcl hfs hcs.1 hcs.2 hdg (fun q H1 hP1 hD1 hS1 => ?_)
  have hq : q ∉ L := va_pl_fresh2 (X := []) hD1
  rw [va_pl_push hq] at hP1 hD1
  exact kk q hq H1 locs ls hP1 hD1 hS1 h
theorem pg_newa (hC : pv_C κ p R s m args meth c y cc nL Ts rt A) {atype : ArrayType} {N : Nat} {n : Int32} (hdg : decode cc pc = .ok (.newarray atype, 2)) (k0 : Nat) {ty : FieldType} (hk : (pv_tys κ)[k0]? = some (κ.2.1 k0, ty)) (hty : newarray.typeOf atype = ty) (hTy : ty = .char ∨ ty = .int ∨ ty = .boolean) (h1 : Cond.arrayClass (newarray.typeOf atype) ∈ Ts) (hn : n = nI N) (hN : N < 2 ^ 20) (hcs : cells + 1 ≤ R.cells ∧ slots + N ≤ R.slots) (kk : ∀ q : Nat, q ∉ L → pv_G κ p l e R s m args below meth c Q A nL (cells + 1) (slots + N) (L ++ [q]) (va_up f q (.inl (κ.2.1 k0, N, .inl (fun _ => 0)))) (pc + 2) vs (.ref q :: st)) : pv_G κ p l e R s m args below meth c Q A nL cells slots L f pc vs (.int n :: st) := fun H locs ls hP hD hS h => by
  subst hn
  have hdef : defaultValue ty = .int 0 := by rcases hTy with q | q | q <;> (rw [q]; rfl)
  have hcb : componentBytes ty ≤ 4 := by rcases hTy with q | q | q <;> (rw [q]; decide)
  refine va_newa hC.1 hC.2.1 (hC.2.2.2.2.1 _ h1) hty hC.2.2.2.2.2.2.2.1 hP hD hS hC.2.2.2.2.2.2.2.2.1 (a0 := (N, .inl (fun _ => 0))) (fun cA => ?_) (nI_pos (by omega)) (nI_clamp (by omega)) (Nat.le_trans (Nat.mul_le_mul_left N hcb) (by omega)) hcs.1 hcs.2 hdg (fun q cA H1 hK1 hP1 hD1 hS1 => ?_)
  · rw [hdef]; rfl
  · have hcA : cA = κ.2.1 k0 := by
      have g1 := (hK1.2 (pv_tys κ).length (cA, ty) (by rw [List.getElem?_append_right (Nat.le_refl _), Nat.sub_self]; rfl)).2
      have g2 := (hC.2.2.2.2.2.2.2.1.2 k0 _ hk).2
      have e1 : s.vm.findClass ("[" ++ ty.toString) = some cA := by rcases hTy with q | q | q <;> (subst q; exact g1)
      have e2 : s.vm.findClass ("[" ++ ty.toString) = some (κ.2.1 k0) := by rcases hTy with q | q | q <;> (subst q; exact g2)
      exact Option.some.inj (e1.symm.trans e2)
    subst hcA
    have hq : q ∉ L := va_pl_fresh2 (X := []) hD1
    rw [va_pl_push hq] at hP1 hD1
    exact kk q hq H1 locs ls hP1 hD1 hS1 h
theorem pg_newq (hC : pv_C κ p R s m args meth c y cc nL Ts rt A) {index N : Nat} {n : Int32} (hdg : decode cc pc = .ok (.anewarray index, 3)) (h1 : Cond.classLink y.cls index "ExcuseTariffs$School" ∈ Ts) (hn : n = nI N) (hN : N < 2 ^ 20) (hcs : cells + 1 ≤ R.cells ∧ slots + N ≤ R.slots) (kk : ∀ q : Nat, q ∉ L → pv_G κ p l e R s m args below meth c Q A nL (cells + 1) (slots + N) (L ++ [q]) (va_up f q (.inl (κ.2.1 3, N, .inr (.inr (.inr (.inr (fun _ => none))))))) (pc + 3) vs (.ref q :: st)) : pv_G κ p l e R s m args below meth c Q A nL cells slots L f pc vs (.int n :: st) := fun H locs ls hP hD hS h => by
  subst hn
  refine va_newq hC.1 hC.2.1 hC.2.2.2.1 (hC.2.2.2.2.1 _ h1) hC.2.2.2.2.2.2.2.2.2.1.2.2 hC.2.2.2.2.2.2.2.1 hP hD hS hC.2.2.2.2.2.2.2.2.1 (nI_pos (by omega)) (nI_clamp (by omega)) (by omega) hcs.1 hcs.2 hdg (fun q cA H1 hK1 hP1 hD1 hS1 => ?_)
  have hcA : cA = κ.2.1 3 := by
    obtain ⟨kA, comp, -, -, -, g1⟩ := (hK1.2 (pv_tys κ).length _ (by rw [List.getElem?_append_right (Nat.le_refl _), Nat.sub_self]; rfl)).2
    obtain ⟨kA2, comp2, -, -, -, g2⟩ := (hC.2.2.2.2.2.2.2.1.2 3 _ rfl).2
    exact Option.some.inj (g1.symm.trans g2)
  subst hcA
  have hq : q ∉ L := va_pl_fresh2 (X := []) hD1
  rw [va_pl_push hq] at hP1 hD1
  exact kk q hq H1 locs ls hP1 hD1 hS1 h
/-- a static table's row into a row of the pool -/
theorem pg_copyt (hC : pv_C κ p R s m args meth c y cc nL Ts rt A) {index t a n0 n1 : Nat} {nm : String} {r0 r1 : Nat → Int32} (hdg : decode cc pc = .ok (.invokestatic index, 3)) (h1 : Cond.methodLink y.cls index arraycopyName ∈ Ts) (h2 : Cond.native arraycopyName ∈ Ts) (h3 : Cond.static arraycopyName ∈ Ts) (h4 : Cond.initialized "java/lang/System" ∈ Ts) (ht : pv_tb nm t r0 A s) (hL1 : a ∈ L) (hf1 : f a = .inl (κ.2.1 1, n1, .inl r1)) (n : Nat) (hn0 : n ≤ 5) (hn1 : n ≤ n1) (hn0' : n0 = n) (hfr : 1 ≤ R.frames) (hlo : (st.map fun v => v.category).sum + (nativeFrameWords "java/lang/System" "arraycopy" 5 + 11) ≤ R.locals) (kk : pv_G κ p l e R s m args below meth c Q A nL cells slots L (va_up f a (.inl (κ.2.1 1, n1, .inl (va_cpy r0 r1 0 0 n)))) (pc + 3) vs st) : pv_G κ p l e R s m args below meth c Q A nL cells slots L f pc vs (.int (nI n0) :: .int 0 :: .ref a :: .int 0 :: .ref t :: st) := fun H locs ls hP hD hS h => by
  subst hn0'
  obtain ⟨q1, hq1⟩ := pv_at (D := κ.1) (H := H) hL1 hf1
  intro T hT X
  obtain ⟨-, scr, s1, ⟨s2, k0, hk0, cm0, hkk0⟩, s3, s4, -, s5, s6⟩ := ht
  have hc0 : H[t]? = some scr := (hS.2.1 t (Array.getElem?_eq_some_iff.mp s1).1 s6).trans s1
  have hc1 : H[a]? = some (vp_cell (κ.2.1 1) (n1, .inl r1)) := hP q1 _ hq1
  obtain ⟨-, k1, hk1, cm1, hkk1⟩ := (hC.2.2.2.2.2.2.2.1.2 1 _ rfl).1 n1 (fun j => .int (r1 j))
  have i0 : (0 : Int32).toInt = 0 := rfl
  have iN : (nI n0).toInt = (n0 : Int) := nI_toInt (by omega)
  have eN : (nI n0).toNatClampNeg = n0 := nI_clamp (by omega)
  have e0 : (0 : Int32).toNatClampNeg = 0 := rfl
  obtain ⟨vm', X', step⟩ := X.arraycopy hC.1 hC.2.2.2.1 (hC.2.2.2.2.1 _ h1) (hC.2.2.2.2.1 _ h2) (hC.2.2.2.2.1 _ h3) (hC.2.2.2.2.1 _ h4) (src := t) (dst := a) (cs := scr) (cd := vp_cell (κ.2.1 1) (n1, .inl r1)) (srcPos := 0) (destPos := 0) (n := nI n0) (by rw [hT]; exact hc0) (by rw [hT]; exact hc1)
    s2 (fun _ q => by cases q) s3 (fun q => by cases q) hk0 hk1 hkk0 hkk1 (by simp [refKind]) (by decide) (by decide) (nI_pos (by omega))
    (by rw [i0, iN]; omega)
    (by rw [i0, iN]; show ¬ _ > ((arrV (κ.2.1 1) n1 (fun j => .int (r1 j))).slots.size : Int); rw [arrV_size]; omega)
    (fun vm₁ _ i hi => by
      rw [eN] at hi
      have g : scr.slots.getD ((0 : Int32).toNatClampNeg + i) .null = .int (r0 ((0 : Int32).toNatClampNeg + i)) := by
        rw [Array.getD_eq_getD_getElem?, s5 _ (by rw [e0]; omega)]; rfl
      rw [g]
      exact ⟨rfl, trivial⟩)
    (g := F0 m pc ls (.int (nI n0) :: .int 0 :: .ref a :: .int 0 :: .ref t :: st)) rfl (by rw [hC.2.2.1]; exact h.1) (rest := st) rfl (by rw [hC.2.1]; exact hdg) hfr (by show 2 * 0 + _ + _ ≤ _; omega)
  have e1 : copied scr (vp_cell (κ.2.1 1) (n1, .inl r1)) 0 0 (nI n0) = vp_cell (κ.2.1 1) (n1, .inl (va_cpy r0 r1 0 0 n0)) := by
    have q := va_copiedX (n1 := n1) (sp := 0) (dp := 0) (n := (nI n0).toNatClampNeg) (fun z => Value.int z) scr (κ.2.1 1) r0 r1 s5 (by omega)
    refine Eq.trans q ?_
    rw [eN]
    rfl
  rw [e1] at X' step
  have hP2 := hP; have hD2 := hD
  have hE : (va_pl L f).set q1 (a, .inl (κ.2.1 1, n1, .inl (va_cpy r0 r1 0 0 n0))) = va_pl L (va_up f a (.inl (κ.2.1 1, n1, .inl (va_cpy r0 r1 0 0 n0)))) := pv_set hD hL1 hf1 hq1
  have hA : A a := hD.2 q1 _ hq1
  have hl : a < H.size := (Array.getElem?_eq_some_iff.mp hc1).1
  generalize hC2 : vp_cell (κ.2.1 1) (n1, .inl (va_cpy r0 r1 0 0 n0)) = C2 at X' step
  have oq : ∀ q : Nat, q ≠ a → (H.setIfInBounds a C2)[q]? = H[q]? := fun q hq => by rw [Array.getElem?_setIfInBounds, if_neg (Ne.symm hq)]
  have eq : (H.setIfInBounds a C2)[a]? = some C2 := by rw [Array.getElem?_setIfInBounds, if_pos rfl, if_pos hl]
  have hP3 := hP.set (e := .inl (κ.2.1 1, n1, .inl (va_cpy r0 r1 0 0 n0))) (H1 := H.setIfInBounds a C2) hD hq1 (show (H.setIfInBounds a C2)[a]? = some (vp_cell (κ.2.1 1) (n1, .inl (va_cpy r0 r1 0 0 n0))) by rw [hC2]; exact eq) oq
  have hD3 := hD.set (e := .inl (κ.2.1 1, n1, .inl (va_cpy r0 r1 0 0 n0))) hq1
  rw [hE] at hP3 hD3
  obtain ⟨t2, a1, b1⟩ := kk (H.setIfInBounds a C2) _ ls hP3 hD3 ⟨by rw [Array.size_setIfInBounds]; exact hS.1, fun q g1 g2 => (oq q (fun z => g2 (z ▸ hA))).trans (hS.2.1 q g1 g2), fun q hq => by
    rcases List.mem_append.mp hq with z | z
    · exact hS.2.2 q z
    · obtain ⟨i, -, rfl⟩ := List.mem_map.mp z
      exact hA⟩ h ((T.setVm vm').setCell a C2) (by rw [← hT]; rfl) X'
  exact ⟨t2, step t2 a1, b1⟩
end PVNW
