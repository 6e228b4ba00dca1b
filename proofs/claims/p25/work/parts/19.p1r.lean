section PONR
variable {κ : pv_Kt} {p : Program} {l : Launch} {e : Env} {R : Room} {s : State} {m : MethodId} {args : Array Value} {below : List Frame} {meth : Method} {c : Code} {Q : State → Prop} {A : Nat → Prop} {nL : Nat} {cells slots : Nat} {L : List Nat} {f : Nat → va_E} {pc : Nat} {vs : List (Nat × Value)} {st : List Value}
variable {y : MethodName} {cc : ByteArray} {Ts : List Cond} {rt : Option FieldType}
variable {o : Nat} {xs : Nat → Nat} {L0 : List Nat} {f0 : Nat → va_E} {a : Nat} {S : Nat → Prop} {E : Nat → va_E}
theorem pg1_new (hC : pv_C κ p R s m args meth c y cc nL Ts rt A) (h : p1 o xs L0 f0 a L f S E) (K : Nat) (hK : ¬ S K) {C2 : String} {T : u_T} {N ci index : Nat} (hdg : decode cc pc = .ok (.new index, 3)) (hin : ∀ w ∈ u_ws C2 T N, w ∈ Ts) (ty0 : Nat → FieldType) (hty : ∀ k, k < N → parseFieldDescriptor (T k).2.2.1 = some (ty0 k)) (hcl : vwCl[ci]? = some (C2, T, N)) (h1 : Cond.classLink y.cls index C2 ∈ Ts) (h2 : Cond.instantiable C2 N ∈ Ts) (h3 : Cond.initialized C2 ∈ Ts) {fs : List Value} (hfs : ∀ j, j < N → defaultValue (ty0 j) = vp_V fs j) (hcs : cells + 1 ≤ R.cells ∧ slots + N ≤ R.slots) (kk : ∀ (q : Nat) (L1 : List Nat) (f1 : Nat → va_E), p1 o (va_up xs K q) L0 f0 a L1 f1 (fun c => c = K ∨ S c) (va_up E K (.inr (ci, fs))) → pv_G κ p l e R s m args below meth c Q A nL (cells + 1) (slots + N) L1 f1 (pc + 3) vs (.ref q :: st)) : pv_G κ p l e R s m args below meth c Q A nL cells slots L f pc vs st :=
  pg_new hC hdg hin ty0 hty hcl h1 h2 h3 hfs hcs (fun q hq => kk q _ _ (p1_push h hq K hK _))
theorem pg1_newa (hC : pv_C κ p R s m args meth c y cc nL Ts rt A) (h : p1 o xs L0 f0 a L f S E) (K : Nat) (hK : ¬ S K) {atype : ArrayType} {N : Nat} {n : Int32} (hdg : decode cc pc = .ok (.newarray atype, 2)) (k0 : Nat) {ty : FieldType} (hk : (pv_tys κ)[k0]? = some (κ.2.1 k0, ty)) (hty : newarray.typeOf atype = ty) (hTy : ty = .char ∨ ty = .int ∨ ty = .boolean) (h1 : Cond.arrayClass (newarray.typeOf atype) ∈ Ts) (hn : n = nI N) (hN : N < 2 ^ 20) (hcs : cells + 1 ≤ R.cells ∧ slots + N ≤ R.slots) (kk : ∀ (q : Nat) (L1 : List Nat) (f1 : Nat → va_E), p1 o (va_up xs K q) L0 f0 a L1 f1 (fun c => c = K ∨ S c) (va_up E K (.inl (κ.2.1 k0, N, .inl (fun _ => 0)))) → pv_G κ p l e R s m args below meth c Q A nL (cells + 1) (slots + N) L1 f1 (pc + 2) vs (.ref q :: st)) : pv_G κ p l e R s m args below meth c Q A nL cells slots L f pc vs (.int n :: st) :=
  pg_newa hC hdg k0 hk hty hTy h1 hn hN hcs (fun q hq => kk q _ _ (p1_push h hq K hK _))
theorem pg1_newq (hC : pv_C κ p R s m args meth c y cc nL Ts rt A) (h : p1 o xs L0 f0 a L f S E) (K : Nat) (hK : ¬ S K) {index N : Nat} {n : Int32} (hdg : decode cc pc = .ok (.anewarray index, 3)) (h1 : Cond.classLink y.cls index "ExcuseTariffs$School" ∈ Ts) (hn : n = nI N) (hN : N < 2 ^ 20) (hcs : cells + 1 ≤ R.cells ∧ slots + N ≤ R.slots) (kk : ∀ (q : Nat) (L1 : List Nat) (f1 : Nat → va_E), p1 o (va_up xs K q) L0 f0 a L1 f1 (fun c => c = K ∨ S c) (va_up E K (.inl (κ.2.1 3, N, .inr (.inr (.inr (.inr (fun _ => none))))))) → pv_G κ p l e R s m args below meth c Q A nL (cells + 1) (slots + N) L1 f1 (pc + 3) vs (.ref q :: st)) : pv_G κ p l e R s m args below meth c Q A nL cells slots L f pc vs (.int n :: st) :=
  pg_newq hC hdg h1 hn hN hcs (fun q hq => kk q _ _ (p1_push h hq K hK _))
theorem pg1_put (hC : pv_C κ p R s m args meth c y cc nL Ts rt A) (h : p1 o xs L0 f0 a L f S E) {C2 : String} {T : u_T} {N ci index : Nat} {fs : List Value} {v : Value} {ty : FieldType} (hE : E o = .inr (ci, fs)) (hdg : decode cc pc = .ok (.putfield index, 3)) (k : Nat) (hin : ∀ w ∈ u_ws C2 T N, w ∈ Ts) (ty0 : Nat → FieldType) (hty : ∀ k, k < N → parseFieldDescriptor (T k).2.2.1 = some (ty0 k)) (hnm : ∀ a, a < N → ∀ b, b < N → a ≠ b → (T a).2.1 ≠ (T b).2.1) (hlink : Cond.fieldLink y.cls index C2 (T k).2.1 (T k).2.2.1 ∈ Ts) (hcl : vwCl[ci]? = some (C2, T, N)) (hk : k < N) (hT : (T k).1 = C2) (hini : y.name = "<init>") (hdecl : (T k).1 = y.cls) (hd : parseFieldDescriptor (T k).2.2.1 = some ty) (hn : narrow ty v = v) (hfit : fits ty v = true) (hl : k < fs.length) (kk : ∀ f1 : Nat → va_E, p1 o xs L0 f0 a L f1 S (va_up E o (.inr (ci, fs.set k v))) → pv_G κ p l e R s m args below meth c Q A nL cells slots L f1 (pc + 3) vs st) : pv_G κ p l e R s m args below meth c Q A nL cells slots L f pc vs (v :: .ref a :: st) := by
  have hf : f a = .inr (ci, fs) := (p1_o h).2.trans hE
  have hh := p1_set h h.2.2.2.2.1 h.2.2.2.2.2.1 (.inr (ci, fs.set k v))
  cases hfin : (T k).2.2.2 with
  | true => exact pg_putF hC hdg k hin ty0 hty hnm hlink (p1_o h).1 hf hcl hk hT hfin hini hdecl hd hn hfit hl (kk _ hh)
  | false => exact pg_put hC hdg k hin ty0 hty hnm hlink (p1_o h).1 hf hcl hk hT hfin hd hn hfit hl (kk _ hh)
theorem pg1_get (hC : pv_C κ p R s m args meth c y cc nL Ts rt A) (h : p1 o xs L0 f0 a L f S E) {C2 : String} {T : u_T} {N ci index : Nat} {fs : List Value} {v : Value} (hE : E o = .inr (ci, fs)) (hdg : decode cc pc = .ok (.getfield index, 3)) (k : Nat) (hin : ∀ w ∈ u_ws C2 T N, w ∈ Ts) (hlink : Cond.fieldLink y.cls index C2 (T k).2.1 (T k).2.2.1 ∈ Ts) (hcl : vwCl[ci]? = some (C2, T, N)) (hk : k < N) (hT : (T k).1 = C2) (hv : fs[k]? = some v) (kk : pv_G κ p l e R s m args below meth c Q A nL cells slots L f (pc + 3) vs (v :: st)) : pv_G κ p l e R s m args below meth c Q A nL cells slots L f pc vs (.ref a :: st) :=
  pg_get hC hdg k hin hlink (p1_o h).1 ((p1_o h).2.trans hE) hcl hk hT hv kk
theorem pg1_iast (hC : pv_C κ p R s m args meth c y cc nL Ts rt A) (h : p1 o xs L0 f0 a L f S E) (K : Nat) (hK : S K) {q n : Nat} {row : Nat → Int32} {i x : Int32} (hE : E K = .inl (κ.2.1 1, n, .inl row)) (hq : xs K = q) (hdg : decode cc pc = .ok (.iastore, 1)) (j : Nat) (hi : i = nI j) (hj : j < n) (hn : n < 2 ^ 31) (kk : ∀ f1 : Nat → va_E, p1 o xs L0 f0 a L f1 S (va_up E K (.inl (κ.2.1 1, n, .inl (va_up row j x)))) → pv_G κ p l e R s m args below meth c Q A nL cells slots L f1 (pc + 1) vs st) : pv_G κ p l e R s m args below meth c Q A nL cells slots L f pc vs (.int x :: .int i :: .ref q :: st) := by
  have hh := p1_set h hK hq (.inl (κ.2.1 1, n, .inl (va_up row j x)))
  subst hq
  exact pg_iast hC hdg j (p1_at h hK).1 ((p1_at h hK).2.trans hE) hi hj hn (kk _ hh)
theorem pg1_astq (hC : pv_C κ p R s m args meth c y cc nL Ts rt A) (h : p1 o xs L0 f0 a L f S E) (K K2 : Nat) (hK : S K) (hK2 : S K2) {q b n : Nat} {row : Nat → Option Nat} {i : Int32} {fs : List Value} (hE : E K = .inl (κ.2.1 3, n, .inr (.inr (.inr (.inr row))))) (hE2 : E K2 = .inr (3, fs)) (hq : xs K = q) (hb : xs K2 = b) (hdg : decode cc pc = .ok (.aastore, 1)) (j : Nat) (hi : i = nI j) (hj : j < n) (hn : n < 2 ^ 31) (kk : ∀ f1 : Nat → va_E, p1 o xs L0 f0 a L f1 S (va_up E K (.inl (κ.2.1 3, n, .inr (.inr (.inr (.inr (va_up row j (some b)))))))) → pv_G κ p l e R s m args below meth c Q A nL cells slots L f1 (pc + 1) vs st) : pv_G κ p l e R s m args below meth c Q A nL cells slots L f pc vs (.ref b :: .int i :: .ref q :: st) := by
  have hh := p1_set h hK hq (.inl (κ.2.1 3, n, .inr (.inr (.inr (.inr (va_up row j (some b)))))))
  subst hq; subst hb
  exact pg_astq hC hdg j (p1_at h hK).1 ((p1_at h hK).2.trans hE) (p1_at h hK2).1 ((p1_at h hK2).2.trans hE2) rfl rfl hi hj hn (kk _ hh)
/-- a constructor's contract, and its call on the object of code B + o2 -/
def pv_Wn (o : Nat) (L : List Nat) (f : Nat → va_E) (a : Nat) (S : Nat → Prop) (E : (Nat → Nat) → Nat → va_E) : List Nat × (Nat → va_E) → Prop := fun u => ∃ xs : Nat → Nat, p1 o xs L f a u.1 u.2 S (E xs)
end PONR
/-! loops that make -/
section PLOOPN
variable {κ : pv_Kt} {p : Program} {l : Launch} {e : Env} {R : Room} {s : State} {m : MethodId} {args : Array Value} {below : List Frame} {meth : Method} {c : Code} {Q : State → Prop} {A : Nat → Prop} {nL : Nat} {pc : Nat}
theorem pg_loopN {σ : Type} (I : σ → Prop) (μ : σ → Nat) (CE SL : σ → Nat) (LL : σ → List Nat) (VS : σ → List (Nat × Value)) (FF : σ → Nat → va_E) (step : ∀ q, I q → (∀ q2, I q2 → μ q2 < μ q → pv_G κ p l e R s m args below meth c Q A nL (CE q2) (SL q2) (LL q2) (FF q2) pc (VS q2) []) → pv_G κ p l e R s m args below meth c Q A nL (CE q) (SL q) (LL q) (FF q) pc (VS q) []) (q0 : σ) (h0 : I q0) : pv_G κ p l e R s m args below meth c Q A nL (CE q0) (SL q0) (LL q0) (FF q0) pc (VS q0) [] := by
  have key : ∀ (n : Nat) (q : σ), μ q < n → I q → pv_G κ p l e R s m args below meth c Q A nL (CE q) (SL q) (LL q) (FF q) pc (VS q) [] := by
    intro n
    induction n with
    | zero => intro q h; omega
    | succ n ih => intro q h hq; exact step q hq (fun q2 h2 hlt => ih q2 (by omega) h2)
  exact key (μ q0 + 1) q0 (by omega) h0
end PLOOPN
/-! what the constructors make -/
def sI6 : Nat → Nat → Int32 | 0 => fun _ => 0 | k + 1 => va_up (sI6 k) k 5
def sI11 : Nat → Nat → Int32 | 0 => fun _ => 0 | k + 1 => va_up (sI11 k) k (-6)
/-- a new school's table -/
def sI : Nat → Nat → Int32 := fun k => if k = 0 then va_cpy pv_t0 (fun _ => 0) 0 0 5 else if k = 6 then sI6 10 else if k = 11 then sI11 10 else fun _ => 0
def pS_E (κ : pv_Kt) (xs : Nat → Nat) (z : Nat → Nat → Int32) (k : Nat) : va_E := if k = 1 then .inr (3, pv_so xs z) else .inl (κ.2.1 1, pv_sl k, .inl (z k))
def zS (a b : Nat) : Nat → Nat → Int32 := fun k => if k = 0 then va_cpy pv_t0 (fun _ => 0) 0 0 5 else if k = 6 then sI6 a else if k = 11 then sI11 b else fun _ => 0
theorem sI_zS : sI = zS 10 10 := rfl
theorem pS_E_up6 {κ : pv_Kt} {X : Nat → Nat} {a b : Nat} : va_up (pS_E κ X (zS a b)) 6 (.inl (κ.2.1 1, 10, .inl (va_up (sI6 a) a 5))) = pS_E κ X (zS (a + 1) b) := by
  funext c
  by_cases h : c = 6
  · subst h; rw [va_up_e]; rfl
  · rw [va_up_ne _ _ h]
    unfold pS_E
    by_cases h1 : c = 1
    · rw [if_pos h1, if_pos h1]; rfl
    · rw [if_neg h1, if_neg h1]; simp only [zS, h, if_false]
theorem pS_E_up11 {κ : pv_Kt} {X : Nat → Nat} {a b : Nat} : va_up (pS_E κ X (zS a b)) 11 (.inl (κ.2.1 1, 10, .inl (va_up (sI11 b) b (-6)))) = pS_E κ X (zS a (b + 1)) := by
  funext c
  by_cases h : c = 11
  · subst h; rw [va_up_e]; rfl
  · rw [va_up_ne _ _ h]
    unfold pS_E
    by_cases h1 : c = 1
    · rw [if_pos h1, if_pos h1]; rfl
    · rw [if_neg h1, if_neg h1]; simp only [zS, h, if_false]