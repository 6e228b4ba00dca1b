/-! the reference's writers, over its table g -/
def mLay (g : Nat → Nat → Int32) (p k : Nat) (v : Int32) : Nat → Nat → Int32 := zu g 0 (54 + 6 * p + k) v
def mAng (g : Nat → Nat → Int32) (p : Nat) : Nat → Nat → Int32 := zu g 0 (13 + p / 2) (if 9 ≤ g 0 (13 + p / 2) then 9 else g 0 (13 + p / 2) + 1)
def mLos (g : Nat → Nat → Int32) (wt c : Int32) : Nat → Nat → Int32 := if wt = -6 then g else zu g 0 (54 + 6 * cl wt + 0) (if 0 ≤ g 0 (54 + 6 * cl wt + 0) - c then g 0 (54 + 6 * cl wt + 0) - c else 0)
def mInc (g : Nat → Nat → Int32) (j : Nat) : Nat → Nat → Int32 := zu g 0 j (g 0 j + 1)
def mRef1 (g : Nat → Nat → Int32) (p : Nat) (kd : Int32) (r : Nat) : Nat → Nat → Int32 := mInc (mInc (mLay g p 4 kd) (6 + r)) (54 + 6 * p + 3)
def mRef2 (g : Nat → Nat → Int32) (p : Nat) (kd mn : Int32) (r : Nat) : Nat → Nat → Int32 := mAng (zu (mRef1 g p kd r) 0 (54 + 6 * p + 1) (mRef1 g p kd r 0 (54 + 6 * p + 1) + mRef1 g p kd r 0 3 * mn)) p
def mRef (g : Nat → Nat → Int32) (p : Nat) (kd wt mn : Int32) (r : Nat) : Nat → Nat → Int32 := mLos (mRef2 g p kd mn r) wt (if r = 4 then 2 else 0)
def mStm0 (g : Nat → Nat → Int32) (p e : Nat) (kd wt : Int32) : Nat → Nat → Int32 := mLos (mInc (mInc (mInc (mInc (mInc (mLay g p 4 kd) 6) 12) (54 + 6 * p + 2)) (114 + 10 * e + p)) (18 + 3 * e + 2)) wt 1
def mStm (g : Nat → Nat → Int32) (p e : Nat) (kd wt mn : Int32) : Nat → Nat → Int32 := if mn ≤ 30 then mStm0 g p e kd wt else mAng (mStm0 g p e kd wt) p
/-- n numbers from a on, to b on -/
def cS (f : Nat → Int32) (a : Nat) (t : Nat → Int32) (b : Nat) : Nat → Nat → Int32 | 0 => t | k + 1 => va_up (cS f a t b k) (b + k) (f (a + k))
theorem cS_at (f t : Nat → Int32) (a b : Nat) : ∀ k j : Nat, cS f a t b k j = if b ≤ j ∧ j < b + k then f (a + (j - b)) else t j
  | 0, j => by rw [if_neg (by omega)]; rfl
  | k + 1, j => by
    show va_up (cS f a t b k) (b + k) (f (a + k)) j = _
    by_cases c : j = b + k
    · subst c
      rw [if_pos (by omega), show b + k - b = k by omega]
      simp [va_up]
    · rw [va_up_ne _ _ c, cS_at f t a b k j]
      by_cases c2 : b ≤ j ∧ j < b + k
      · rw [if_pos c2, if_pos (by omega)]
      · rw [if_neg c2, if_neg (by omega)]
def mSh (g : Nat → Nat → Int32) : Nat → Nat → Nat → Int32 | 0 => g | k + 1 => zu (mSh g k) 1 k (mSh g k 1 (k + 234))
theorem mSh_o (g : Nat → Nat → Int32) {l : Nat} (h : l ≠ 1) : ∀ k : Nat, mSh g k l = g l
  | 0 => rfl
  | k + 1 => by
    show zu (mSh g k) 1 k _ l = g l
    rw [zu_o h, mSh_o g h k]
theorem mSh_at (g : Nat → Nat → Int32) : ∀ k j : Nat, mSh g k 1 j = if j < k then g 1 (j + 234) else g 1 j
  | 0, j => by rw [if_neg (by omega)]; rfl
  | k + 1, j => by
    show zu (mSh g k) 1 k (mSh g k 1 (k + 234)) 1 j = _
    by_cases c : j = k
    · subst c
      rw [zu_ee, mSh_at g j (j + 234), if_neg (by omega), if_pos (by omega)]
    · rw [zu_en c, mSh_at g k j]
      by_cases c2 : j < k
      · rw [if_pos c2, if_pos (by omega)]
      · rw [if_neg c2, if_neg (by omega)]
def mPush (g : Nat → Nat → Int32) (st : Nat) : Nat → Nat → Int32 := zu (zc g 1 (cS (g 0) 0 (g 1) (234 * st) 234)) 2 0 (nI (st + 1))
def mRec (g : Nat → Nat → Int32) (st : Nat) : Nat → Nat → Int32 := if st = 6 then mPush (zu (mSh g 1170) 2 0 (nI 5)) 5 else mPush g st
theorem mPush_o (g : Nat → Nat → Int32) (st : Nat) {l : Nat} (h1 : l ≠ 1) (h2 : l ≠ 2) : mPush g st l = g l := by
  unfold mPush zc
  rw [zu_o h2, va_up_ne _ _ h1]
theorem mRec_o (g : Nat → Nat → Int32) (st : Nat) {l : Nat} (h1 : l ≠ 1) (h2 : l ≠ 2) : mRec g st l = g l := by
  unfold mRec
  split
  · rw [mPush_o _ _ h1 h2, zu_o h2, mSh_o g h1]
  · exact mPush_o _ _ h1 h2
theorem mRec_0 (g : Nat → Nat → Int32) (st : Nat) : mRec g st 0 = g 0 := mRec_o g st (by decide) (by decide)
def mUnd (g : Nat → Nat → Int32) (st : Nat) : Nat → Nat → Int32 := zc (zu g 2 0 (nI (st - 1))) 0 (cS (g 1) (234 * (st - 1)) (g 0) 0 234)
def mSav (g : Nat → Nat → Int32) (j : Nat) : Nat → Nat → Int32 := zu (zc g 3 (cS (g 0) 0 (g 3) (234 * j) 234)) 4 j 1
def mRst (g : Nat → Nat → Int32) (st j : Nat) : Nat → Nat → Int32 := zc (mRec g st) 0 (cS (mRec g st 3) (234 * j) (mRec g st 0) 0 234)
def mE1 (g : Nat → Nat → Int32) : Nat → Nat → Nat → Int32 | 0 => g | k + 1 => zu (mE1 g k) 0 (114 + k) 0
def mE2 (g : Nat → Nat → Int32) : Nat → Nat → Nat → Int32 | 0 => g | k + 1 => zu (mE2 g k) 0 (13 + k) (mE2 g k 0 (13 + k) / 2)
def mCr (c : Int32) : Int32 := if c ≤ 7 then c + 2 else 9
def mE3 (g : Nat → Nat → Int32) : Nat → Nat → Nat → Int32 | 0 => g | k + 1 => mLay (mLay (mE3 g k) k 4 (-6)) k 0 (mCr (mLay (mE3 g k) k 4 (-6) 0 (54 + 6 * k + 0)))
def mEnd0 (g : Nat → Nat → Int32) : Nat → Nat → Int32 := zu (zu g 0 12 0) 0 11 (zu g 0 12 0 0 11 + 1)
def mEnd (g : Nat → Nat → Int32) : Nat → Nat → Int32 := mE3 (mE2 (mE1 (mEnd0 g) 120) 5) 10
/-- the pad of the reference with m characters more -/
def mApp (x : Int64) (g : Nat → Nat → Int32) (n : Nat) : Nat → Nat → Nat → Int32
  | 0 => g
  | k + 1 => mApp x (zu (zu g 5 n (nI (kC x k))) 6 0 (nI (n + 1))) (n + 1) k
def mS (z : Nat → Nat → Int32) (n : Nat) (w : Nat → Int32) : Prop := mR z w ∧ gd z n ∧ w 6 = bx_sum (z 9) 10 ∧ w 12 = bx_sum (z 5) 120
section PVCM
variable {κ : pv_Kt} {p : Program} {l : Launch} {e : Env} {R : Room} {s : State} {m : MethodId} {args : Array Value} {below : List Frame} {meth : Method} {c : Code} {Q : State → Prop} {A : Nat → Prop} {nL : Nat} {cells slots : Nat} {L : List Nat} {f : Nat → va_E} {pc : Nat} {vs : List (Nat × Value)} {st : List Value}
variable {y : MethodName} {cc : ByteArray} {Ts : List Cond} {rt : Option FieldType} {x : Nat → Nat → Nat} {Z : Nat → Nat → Nat → Int32} {g : Nat → Nat → Int32}
theorem pg_callSx (hC : pv_C κ p R s m args meth c y cc nL Ts rt A) {y2 : MethodName} {ws2 : List Cond} {rm2 : Room} {bytes : ByteArray} {maxL : Nat} {ret : Option FieldType} {n index : Nat} {As rest : List Value} {g : Nat → va_E} (hdg : decode cc pc = .ok (.invokestatic index, 3)) (hM : pv_Mv l κ y2 ws2 rm2 L f As 0 0 (fun u => u = (L, g))) (cw : CallB R s args y.cls index y2 bytes maxL ret ws2 rm2 0 0 n ∧ (Cond.static y2).before args s = true) (hn : As.length = n) (hst : st = As.reverse ++ rest) (hWt : (rest.map fun v => v.category).sum ≤ 8) (hc : cells ≤ R.cells) (hs : slots ≤ R.slots) (kk : pv_G κ p l e R s m args below meth c Q A nL cells slots L g (pc + 3) vs rest) : pv_G κ p l e R s m args below meth c Q A nL cells slots L f pc vs st := pg_callSv hC hdg hM cw hn hst hWt ⟨hc, hs⟩ (fun u hu => by subst hu; exact kk)
end PVCM
abbrev rmX5_copyState : Room := { frames := 0, cells := 0, slots := 0, locals := 0 }
set_option maxHeartbeats 2000000 in
set_option maxRecDepth 20000 in
theorem cX5_copyState_c (l : Launch) {κ : pv_Kt} {L : List Nat} {f : Nat → va_E} {a0 a1 n0 n1 : Nat} {r0 r1 : Nat → Int32} (a b : Nat) (hne : a0 ≠ a1) (hn0 : n0 < 2 ^ 20) (hn1 : n1 < 2 ^ 20) (hL0 : a0 ∈ L) (hf0 : f a0 = .inl (κ.2.1 1, n0, .inl r0)) (hL1 : a1 ∈ L) (hf1 : f a1 = .inl (κ.2.1 1, n1, .inl r1)) (ha : a + 234 ≤ n0) (hb : b + 234 ≤ n1) : pv_Mv l κ yX5_copyState wsX5_copyState rmX5_copyState L f [.ref a0, .int (nI a), .ref a1, .int (nI b)] 0 0 (fun u => u = (L, va_up f a1 (.inl (κ.2.1 1, n1, .inl (cS r0 a r1 b 234))))) := by
  refine pv_startV (cc := cX5_copyState) (maxL := 5) (ret := none) (by decide) rfl (Nat.le_of_ble_eq_true rfl) (fun A0 P0 E0 S0 M0 a9 B0 T0 C0 hC => ?_)
  refine pg_sub (vs' := [(0, .ref a0), (1, .int (nI a)), (2, .ref a1), (3, .int (nI b))]) [0, 1, 2, 3] rfl ?_
  refine pg_iconst (pc := 0) (v := 0) hC dX5_copyState_0 (by decide) ?_
  refine pg_istore (pc := 1) (vs' := [(4, .int 0), (0, .ref a0), (1, .int (nI a)), (2, .ref a1), (3, .int (nI b))]) hC dX5_copyState_1 (by decide) rfl ?_
  refine pg_f (g := va_up f a1 (.inl (κ.2.1 1, n1, .inl (cS r0 a r1 b 0)))) (by rw [show (.inl (κ.2.1 1, n1, .inl (cS r0 a r1 b 0)) : va_E) = f a1 from hf1.symm, va_up_i]) ?_
  refine pg_loop (pc := 3) (σ := Nat) (I := fun k => k ≤ 234) (μ := fun k => 234 - k) (VS := fun k => [(4, .int (nI k)), (0, .ref a0), (1, .int (nI a)), (2, .ref a1), (3, .int (nI b))]) (FF := fun k => va_up f a1 (.inl (κ.2.1 1, n1, .inl (cS r0 a r1 b k)))) ?_ 0 (by decide)
  intro k hk ih
  have g0 : va_up f a1 (.inl (κ.2.1 1, n1, .inl (cS r0 a r1 b k))) a0 = .inl (κ.2.1 1, n0, .inl r0) := by rw [va_up_ne _ _ hne]; exact hf0
  have g1 : va_up f a1 (.inl (κ.2.1 1, n1, .inl (cS r0 a r1 b k))) a1 = .inl (κ.2.1 1, n1, .inl (cS r0 a r1 b k)) := va_up_e
  refine pg_iload (pc := 3) hC dX5_copyState_3 0 rfl ?_
  refine pg_sipush (pc := 5) (v := 234) hC dX5_copyState_5 (by decide) ?_
  refine pg_icmp_geN (pc := 8) hC 29 dX5_copyState_8 (by decide) k 234 rfl rfl (by omega) (by decide) (fun c1 => ?_) (fun c1 => ?_)
  · refine pg_vret (pc := 29) hC dX5_copyState_29 rfl ?_
    rw [show k = 234 by omega]
  · refine pg_aload_n (pc := 11) hC dX5_copyState_11 3 rfl rfl ?_
    refine pg_iload_n (pc := 12) hC dX5_copyState_12 4 rfl rfl ?_
    refine pg_iload (pc := 13) hC dX5_copyState_13 0 rfl ?_
    refine pg_iadd (pc := 15) (v := nI (b + k)) hC dX5_copyState_15 (nI_add b k) ?_
    refine pg_aload_n (pc := 16) hC dX5_copyState_16 1 rfl rfl ?_
    refine pg_iload_n (pc := 17) hC dX5_copyState_17 2 rfl rfl ?_
    refine pg_iload (pc := 18) hC dX5_copyState_18 0 rfl ?_
    refine pg_iadd (pc := 20) (v := nI (a + k)) hC dX5_copyState_20 (nI_add a k) ?_
    refine pg_iald (pc := 21) (v := r0 (a + k)) hC dX5_copyState_21 (a + k) hL0 g0 rfl (by omega) (by omega) rfl ?_
    refine pg_iast (pc := 22) hC dX5_copyState_22 (b + k) hL1 g1 rfl (by omega) (by omega) ?_
    refine pg_f (g := va_up f a1 (.inl (κ.2.1 1, n1, .inl (cS r0 a r1 b (k + 1))))) (va_up_up _ _ _ _) ?_
    refine pg_iinc (pc := 23) (v := nI (k + 1)) (vs' := [(4, .int (nI (k + 1))), (0, .ref a0), (1, .int (nI a)), (2, .ref a1), (3, .int (nI b))]) hC dX5_copyState_23 0 rfl (nI_add k 1) (by decide) rfl ?_
    refine pg_goto (pc := 26) hC 3 dX5_copyState_26 (by decide) ?_
    exact ih (k + 1) (by omega) (by omega)
section PVCN
variable {κ : pv_Kt} {p : Program} {l : Launch} {e : Env} {R : Room} {s : State} {m : MethodId} {args : Array Value} {below : List Frame} {meth : Method} {c : Code} {Q : State → Prop} {A : Nat → Prop} {nL : Nat} {cells slots : Nat} {L : List Nat} {f : Nat → va_E} {pc : Nat} {vs : List (Nat × Value)} {st : List Value}
variable {y : MethodName} {cc : ByteArray} {Ts : List Cond} {rt : Option FieldType} {x : Nat → Nat → Nat} {Z : Nat → Nat → Nat → Int32} {g : Nat → Nat → Int32}
theorem pgM_copy (hC : pv_C κ p R s m args meth c y cc nL Ts rt A) {index : Nat} {i1 i2 : Int32} (hdg : decode cc pc = .ok (.invokestatic index, 3)) (k1 k2 a b : Nat) (hok : pv_ok κ x L f (va_up Z 11 g)) (h1 : k1 = 0 ∨ k1 = 1 ∨ k1 = 3) (h2 : k2 = 0 ∨ k2 = 1 ∨ k2 = 3) (hne : k1 ≠ k2) (e1 : i1 = nI a) (e2 : i2 = nI b) (ha : a + 234 ≤ pv_ml k1) (hb : b + 234 ≤ pv_ml k2) (cw : CallB R s args y.cls index yX5_copyState cX5_copyState 5 none wsX5_copyState rmX5_copyState 0 0 4 ∧ (Cond.static yX5_copyState).before args s = true) (hWt : (st.map fun v => v.category).sum ≤ 8) (hc : cells ≤ R.cells) (hs : slots ≤ R.slots) (kk : ∀ f2 : Nat → va_E, pv_ok κ x L f2 (va_up Z 11 (zc g k2 (cS (g k1) a (g k2) b 234))) → pv_G κ p l e R s m args below meth c Q A nL cells slots L f2 (pc + 3) vs st) : pv_G κ p l e R s m args below meth c Q A nL cells slots L f pc vs (.int i2 :: .ref (x 11 k2) :: .int i1 :: .ref (x 11 k1) :: st) := by
  subst e1; subst e2
  have k16 : k1 < 6 := by omega
  have k26 : k2 < 6 := by omega
  have hb1 : pv_ml k1 < 2 ^ 20 := Nat.lt_of_le_of_lt (pv_ml_le k1) (by decide)
  have hb2 : pv_ml k2 < 2 ^ 20 := Nat.lt_of_le_of_lt (pv_ml_le k2) (by decide)
  have hx : x 11 k1 ≠ x 11 k2 := fun q => hne (hok.2.1 11 k1 11 k2 k16 k26 q).2
  have hokM : pv_ok κ x L (va_up f (x 11 k2) (.inl (κ.2.1 1, pv_ml k2, .inl (cS (g k1) a (g k2) b 234)))) (va_up Z 11 (zc g k2 (cS (g k1) a (g k2) b 234))) := by
    rcases h2 with rfl | rfl | rfl
    · exact og_u (okp_M0 hok)
    · exact og_u (okp_M1 hok)
    · exact og_u (okp_M3 hok)
  exact pg_callSx (As := [.ref (x 11 k1), .int (nI a), .ref (x 11 k2), .int (nI b)]) hC hdg (cX5_copyState_c l a b hx hb1 hb2 (ok_mem hok k16) (og_Ma hok k1 k16 (by omega) (by omega)) (ok_mem hok k26) (og_Ma hok k2 k26 (by omega) (by omega)) ha hb) cw rfl rfl hWt hc hs (kk _ hokM)
end PVCN
