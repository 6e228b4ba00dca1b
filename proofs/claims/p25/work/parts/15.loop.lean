section PVL
variable {κ : pv_Kt} {p : Program} {l : Launch} {e : Env} {R : Room} {s : State} {m : MethodId} {args : Array Value} {below : List Frame} {meth : Method} {c : Code} {Q : State → Prop} {A : Nat → Prop} {nL : Nat} {cells slots : Nat} {L : List Nat} {pc : Nat}
/-- a loop: a state that falls -/
theorem pg_loop {σ : Type} (I : σ → Prop) (μ : σ → Nat) (VS : σ → List (Nat × Value)) (FF : σ → Nat → va_E) (step : ∀ q, I q → (∀ q2, I q2 → μ q2 < μ q → pv_G κ p l e R s m args below meth c Q A nL cells slots L (FF q2) pc (VS q2) []) → pv_G κ p l e R s m args below meth c Q A nL cells slots L (FF q) pc (VS q) []) (q0 : σ) (h0 : I q0) : pv_G κ p l e R s m args below meth c Q A nL cells slots L (FF q0) pc (VS q0) [] := by
  have key : ∀ (n : Nat) (q : σ), μ q < n → I q → pv_G κ p l e R s m args below meth c Q A nL cells slots L (FF q) pc (VS q) [] := by
    intro n
    induction n with
    | zero => intro q h; omega
    | succ n ih => exact fun q h hI => step q hI (fun q2 h2 hm => ih q2 (by omega) h2)
  exact key (μ q0 + 1) q0 (Nat.lt_succ_self _) h0
end PVL
theorem tab_cases (x : Int32) (lo n : Nat) (hn : n < 2 ^ 30) : (∃ j : Nat, lo ≤ j ∧ j ≤ n ∧ x = nI j) ∨ (x.toInt < (lo : Int) ∨ (n : Int) < x.toInt) := by
  by_cases h0 : x.toInt < (lo : Int)
  · exact Or.inr (Or.inl h0)
  · by_cases h1 : (n : Int) < x.toInt
    · exact Or.inr (Or.inr h1)
    · obtain ⟨j, hj, rfl⟩ := vp_in_of (x := x) (n := n + 1) (vp_in_iff.mpr ⟨by omega, by omega⟩) (by omega)
      rw [nI_toInt (by omega)] at h0
      exact Or.inl ⟨j, by omega, by omega, rfl⟩
section PVL2
variable {κ : pv_Kt} {p : Program} {l : Launch} {e : Env} {R : Room} {s : State} {m : MethodId} {args : Array Value} {below : List Frame} {meth : Method} {c : Code} {Q : State → Prop} {A : Nat → Prop} {nL : Nat} {cells slots : Nat} {L : List Nat} {f : Nat → va_E} {pc : Nat} {vs vs' : List (Nat × Value)} {st : List Value}
theorem pg_vs (h : vs = vs') (kk : pv_G κ p l e R s m args below meth c Q A nL cells slots L f pc vs' st) : pv_G κ p l e R s m args below meth c Q A nL cells slots L f pc vs st := h ▸ kk
end PVL2
