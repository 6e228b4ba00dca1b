/-! ===== pools: the whole world is one pool va_pl L f; a judgement pv_G that hides heap, written places and locals' row ===== -/
/-- the constants of a world: classes and slots, array classes (0 char, 1 int, 2 boolean, 3 School), addresses of the three static tables -/
abbrev pv_Kt : Type := va_G × (Nat → ClassId) × (Nat → Nat)
abbrev pv_tys (κ : pv_Kt) : List (ClassId × FieldType) := [(κ.2.1 0, .char), (κ.2.1 1, .int), (κ.2.1 2, .boolean), (κ.2.1 3, .object "ExcuseTariffs$School")]
def pv_t0 : Nat → Int32 := fun k => match k with | 0 => 40 | 1 => 25 | 2 => 3 | 3 => 5 | _ => 4
def pv_t1 : Nat → Int32 := fun k => match k with | 0 => 1 | 1 => 0 | 2 => 1 | 3 => 1 | _ => 0
def pv_t2 : Nat → Int32 := fun k => match k with | 0 => 99 | 1 => 50 | 2 => 9 | 3 => 60 | _ => 20
def pv_tb (n : String) (t : Nat) (f : Nat → Int32) (A : Nat → Prop) (U : State) : Prop := va_Z "ExcuseTariffs" n "[I" (.ref t) A U U.heap ∧ va_T .int t 5 (fun j => .int (f j)) A U U.heap
/-- the links between nest mates -/
def pv_N (U : State) : Prop := va_Nw (.methodLinkNest RX4 33 yX1_init "ExcuseTariffs") U ∧ va_Nw (.methodLinkNest RX4 40 yX2_init "ExcuseTariffs") U ∧ va_Nw (.methodLinkNest RX2 54 yX4_isWithin "ExcuseTariffs") U ∧ va_Nw (.methodLinkNest RX3 61 yX4_copy "ExcuseTariffs") U ∧ va_Nw (.methodLinkNest RX3 73 yX4_classOf "ExcuseTariffs") U ∧ va_Nw (.fieldLinkNest RX3 9 RX4 "FIRST_SETTINGS" "[I" "ExcuseTariffs") U
def pv_T (κ : pv_Kt) (A : Nat → Prop) (U : State) : Prop := (pv_tb "FIRST_SETTINGS" (κ.2.2 0) pv_t0 A U ∧ pv_tb "LEAST_SETTINGS" (κ.2.2 1) pv_t1 A U ∧ pv_tb "MOST_SETTINGS" (κ.2.2 2) pv_t2 A U) ∧ pv_N U ∧ va_AO RX3 U
theorem pv_N.warm {s U : State} (hW : s.WarmedH U.vm) (h : pv_N s) : pv_N U := ⟨va_Nw.warmM hW h.1, va_Nw.warmM hW h.2.1, va_Nw.warmM hW h.2.2.1, va_Nw.warmM hW h.2.2.2.1, va_Nw.warmM hW h.2.2.2.2.1, va_Nw.warmF hW h.2.2.2.2.2⟩
theorem pv_N.same {s U : State} (hv : s.vm = U.vm) (h : pv_N s) : pv_N U := ⟨va_Nw.same rfl hv h.1, va_Nw.same rfl hv h.2.1, va_Nw.same rfl hv h.2.2.1, va_Nw.same rfl hv h.2.2.2.1, va_Nw.same rfl hv h.2.2.2.2.1, va_Nw.same rfl hv h.2.2.2.2.2⟩
theorem pv_tb.go {n : String} {t : Nat} {f : Nat → Int32} {A B : Nat → Prop} {u U : State} (hvm : u.vm.Alike U.vm) (hq : ∀ a : Nat, a < u.heap.size → ¬ A a → U.heap[a]? = u.heap[a]?) (hAB : ∀ q, q < u.heap.size → B q → A q) (h : pv_tb n t f A u) : pv_tb n t f B U := by
  obtain ⟨⟨cf, kf, fi, fd, a, cell, h1, h2, h3, h4, h5, h6, h7, h8⟩, ⟨c2, g1, g2, g3, g4, g5, g6, g7⟩⟩ := h
  have l5 := (Array.getElem?_eq_some_iff.mp h5).1
  have l1 := (Array.getElem?_eq_some_iff.mp g1).1
  obtain ⟨k', hi', he⟩ := State.fieldFound?_setVm hvm h1
  exact ⟨⟨cf, k', fi, fd, a, cell, hi', h2, by rw [he]; exact h3, by rw [he]; exact h4, by rw [hq a l5 h8]; exact h5, h6, h7, fun z => h8 (hAB a l5 z)⟩, ⟨c2, by rw [hq t l1 g7]; exact g1, State.isArrayOf_alike hvm g2, g3, g4, g5, g6, fun z => g7 (hAB t l1 z)⟩⟩
/-- a method's start -/
def pv_P (κ : pv_Kt) (L : List Nat) (f : Nat → va_E) (sz : Nat) (U : State) : Prop := U.heap.size = sz ∧ va_P κ.1 vwCl (va_pl L f) U.heap ∧ va_K κ.1 vwCl (pv_tys κ) U ∧ va_D (fun _ => True) (va_pl L f) ∧ pv_T κ (va_A (va_pl L f) sz) U
/-- the world behind it -/
def pv_B (κ : pv_Kt) (A : Nat → Prop) (u : List Nat × (Nat → va_E)) (t : State) : Prop := va_P κ.1 vwCl (va_pl u.1 u.2) t.heap ∧ va_K κ.1 vwCl (pv_tys κ) t ∧ va_D A (va_pl u.1 u.2)
/-- contracts: an answer that is an int (or boolean); none -/
def pv_Mi (l : Launch) (κ : pv_Kt) (y : MethodName) (ws : List Cond) (rm : Room) (L : List Nat) (f : Nat → va_E) (av : List Value) (mc ms : Nat) (post : Int32 → List Nat × (Nat → va_E) → Prop) : Prop := ∀ sz : Nat, Met l y ws rm (va_Pc av (pv_P κ L f sz)) (va_Qi post (pv_B κ (va_A (va_pl L f) sz)) (va_A (va_pl L f) sz)) mc ms (va_A (va_pl L f) sz)
def pv_Mv (l : Launch) (κ : pv_Kt) (y : MethodName) (ws : List Cond) (rm : Room) (L : List Nat) (f : Nat → va_E) (av : List Value) (mc ms : Nat) (post : List Nat × (Nat → va_E) → Prop) : Prop := ∀ sz : Nat, Met l y ws rm (va_Pc av (pv_P κ L f sz)) (va_Qv post (pv_B κ (va_A (va_pl L f) sz)) (va_A (va_pl L f) sz)) mc ms (va_A (va_pl L f) sz)
/-- what a body stands on -/
def pv_C (κ : pv_Kt) (p : Program) (R : Room) (s : State) (m : MethodId) (args : Array Value) (meth : Method) (c : Code) (y : MethodName) (cc : ByteArray) (nL : Nat) (Ts : List Cond) (rt : Option FieldType) (A : Nat → Prop) : Prop :=
  p.tables.exec = Jvm.exec ∧ c.code = cc ∧ c.maxLocals = nL ∧ s.vm.findClass y.cls = some m.cls ∧ (∀ w ∈ Ts, w.before args s = true) ∧ meth.sig.returnType = rt ∧ meth.locks = false ∧ va_K κ.1 vwCl (pv_tys κ) s ∧ (∀ q : Nat, s.heap.size ≤ q → A q) ∧ pv_T κ A s ∧ meth.name = y.name
def pv_G (κ : pv_Kt) (p : Program) (l : Launch) (e : Env) (R : Room) (s : State) (m : MethodId) (args : Array Value) (below : List Frame) (meth : Method) (c : Code) (Q : State → Prop) (A : Nat → Prop) (nL : Nat) (cells slots : Nat) (L : List Nat) (f : Nat → va_E) (pc : Nat) (vs : List (Nat × Value)) (st : List Value) : Prop :=
  ∀ (H : Heap) (locs : List Loc) (ls : Array Slot), va_P κ.1 vwCl (va_pl L f) H → va_D A (va_pl L f) → va_S A s.heap H locs → lv_has ls nL vs → W p l e R s m args below meth c H locs cells slots Q (F0 m pc ls st)
theorem pv_startI {l : Launch} {κ : pv_Kt} {y : MethodName} {ws ws' : List Cond} {rm : Room} {L : List Nat} {f : Nat → va_E} {av : List Value} {mc ms : Nat} {post : Int32 → List Nat × (Nat → va_E) → Prop} {cc : ByteArray} {maxL : Nat} {ret : Option FieldType} (hy : plainName y.cls = true) (hw : ws = Cond.code y cc maxL ret :: ws') (hlen : (lg_sl av).length ≤ maxL)
    (body : ∀ (A : Nat → Prop) (p : Program) (e : Env) (s : State) (m : MethodId) (args : Array Value) (below : List Frame) (meth : Method) (c : Code), pv_C κ p rm s m args meth c y cc maxL ws ret A → pv_G κ p l e rm s m args below meth c (MQ below (va_Qi post (pv_B κ A) A) args s mc ms A) A maxL 0 0 L f 0 (lv_args 0 av) []) : pv_Mi l κ y ws rm L f av mc ms post := by
  intro sz
  refine Met.ofW (cc := cc) (maxL := maxL) (ret := ret) hy hw ?_
  intro p e s m args below meth c s₁ B hml hv
  obtain ⟨rfl, hsz, hP, hK, hD0, hT⟩ := hv
  subst hsz
  have hn := name_of_methodNamed B.named B.method
  have C : pv_C κ p rm s m av.toArray meth c y cc maxL ws ret (va_A (va_pl L f) s.heap.size) := ⟨B.exec, B.bytes, hml, findClass_of_methodNamed B.named, atoms_spec (ws := ws) B.pre, B.returns, B.notSynchronized, hK, fun q h => Or.inr h, hT, hn.1⟩
  rw [lg_entry_eq]
  exact body _ p e s m _ below meth c C s.heap [] _ hP (hD0.self (sz := s.heap.size)) va_S.rf (lv_entry av hlen)
theorem pv_startV {l : Launch} {κ : pv_Kt} {y : MethodName} {ws ws' : List Cond} {rm : Room} {L : List Nat} {f : Nat → va_E} {av : List Value} {mc ms : Nat} {post : List Nat × (Nat → va_E) → Prop} {cc : ByteArray} {maxL : Nat} {ret : Option FieldType} (hy : plainName y.cls = true) (hw : ws = Cond.code y cc maxL ret :: ws') (hlen : (lg_sl av).length ≤ maxL)
    (body : ∀ (A : Nat → Prop) (p : Program) (e : Env) (s : State) (m : MethodId) (args : Array Value) (below : List Frame) (meth : Method) (c : Code), pv_C κ p rm s m args meth c y cc maxL ws ret A → pv_G κ p l e rm s m args below meth c (MQ below (va_Qv post (pv_B κ A) A) args s mc ms A) A maxL 0 0 L f 0 (lv_args 0 av) []) : pv_Mv l κ y ws rm L f av mc ms post := by
  intro sz
  refine Met.ofW (cc := cc) (maxL := maxL) (ret := ret) hy hw ?_
  intro p e s m args below meth c s₁ B hml hv
  obtain ⟨rfl, hsz, hP, hK, hD0, hT⟩ := hv
  subst hsz
  have hn := name_of_methodNamed B.named B.method
  have C : pv_C κ p rm s m av.toArray meth c y cc maxL ws ret (va_A (va_pl L f) s.heap.size) := ⟨B.exec, B.bytes, hml, findClass_of_methodNamed B.named, atoms_spec (ws := ws) B.pre, B.returns, B.notSynchronized, hK, fun q h => Or.inr h, hT, hn.1⟩
  rw [lg_entry_eq]
  exact body _ p e s m _ below meth c C s.heap [] _ hP (hD0.self (sz := s.heap.size)) va_S.rf (lv_entry av hlen)
