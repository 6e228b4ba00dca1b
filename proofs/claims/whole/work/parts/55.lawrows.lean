section PLAW
variable {κ : pv_Kt} {p : Program} {l : Launch} {e : Env} {R : Room} {s : State} {m : MethodId} {args : Array Value} {below : List Frame} {meth : Method} {c : Code} {Q : State → Prop} {A : Nat → Prop} {nL : Nat} {cells slots : Nat} {L : List Nat} {f : Nat → va_E} {pc : Nat} {vs : List (Nat × Value)} {st : List Value}
variable {y : MethodName} {cc : ByteArray} {Ts : List Cond} {rt : Option FieldType}
theorem pg_sld (hC : pv_C κ p R s m args meth c y cc nL Ts rt A) {b N : Nat} {xs : Nat → Int32} {i : Int32} (hX : va_X b N xs s s.heap) (hbl : b < s.heap.size) (hbA : ¬ A b) (j : Nat) (hi : i = nI j) (hj : j < N) (hN : N < 2 ^ 31) (hdg : decode cc pc = .ok (.iaload, 1)) (kk : pv_G κ p l e R s m args below meth c Q A nL cells slots L f (pc + 1) vs (.int (xs j) :: st)) : pv_G κ p l e R s m args below meth c Q A nL cells slots L f pc vs (.int i :: .ref b :: st) := fun H locs ls hP hD hS h => by
  subst hi
  refine va_sld hC.1 hC.2.1 hX hbl hbA hS (vp_in_nI hj hN) hdg ?_
  rw [nI_clamp (by omega)]
  exact kk H locs ls hP hD hS h
theorem pg_slen (hC : pv_C κ p R s m args meth c y cc nL Ts rt A) {b N : Nat} {xs : Nat → Int32} (hX : va_X b N xs s s.heap) (hbl : b < s.heap.size) (hbA : ¬ A b) (hdg : decode cc pc = .ok (.arraylength, 1)) (kk : pv_G κ p l e R s m args below meth c Q A nL cells slots L f (pc + 1) vs (.int (nI N) :: st)) : pv_G κ p l e R s m args below meth c Q A nL cells slots L f pc vs (.ref b :: st) := fun H locs ls hP hD hS h => va_slen hC.1 hC.2.1 hX hbl hbA hS hdg (kk H locs ls hP hD hS h)
end PLAW
theorem law_c {N i : Nat} (c : ¬ nI N - 5 < nI i) (hN : N ≤ 2560) (hi : i < 2 ^ 30) : i + 5 ≤ N := by
  by_cases h : 5 ≤ N
  · rw [show (5 : Int32) = nI 5 from rfl, pk_sub h] at c
    exact Classical.byContradiction (fun q => c (nI_lt (by omega) (by omega)))
  · exfalso
    refine c (Int32.lt_of_lt_of_le (b := 0) ?_ (nI_pos' (by omega)))
    rcases (show N = 0 ∨ N = 1 ∨ N = 2 ∨ N = 3 ∨ N = 4 by omega) with rfl | rfl | rfl | rfl | rfl <;> decide
theorem miL_X4 : ∀ w ∈ wsX40, w ∈ wsL_law := fun _ h => List.mem_append_left _ (List.mem_append_left _ (List.mem_append_left _ (List.mem_append_left _ (List.mem_append_left _ (List.mem_append_left _ (List.mem_append_right _ h))))))
theorem miL_X5 : ∀ w ∈ wsX50, w ∈ wsL_law := fun _ h => List.mem_append_left _ (List.mem_append_left _ (List.mem_append_left _ (List.mem_append_left _ (List.mem_append_left _ (List.mem_append_right _ h)))))
