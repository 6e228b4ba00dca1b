/-- one place of one row of a group's table -/
def zu (z : Nat → Nat → Int32) (k j : Nat) (v : Int32) : Nat → Nat → Int32 := va_up z k (va_up (z k) j v)
theorem zu_o {z : Nat → Nat → Int32} {k j l : Nat} {v : Int32} (h : l ≠ k) : zu z k j v l = z l := by simp [zu, va_up, h]
theorem zu_e {z : Nat → Nat → Int32} {k j : Nat} {v : Int32} : zu z k j v k = va_up (z k) j v := by simp [zu, va_up]
theorem zu_ee {z : Nat → Nat → Int32} {k j : Nat} {v : Int32} : zu z k j v k j = v := by simp [zu, va_up]
theorem zu_en {z : Nat → Nat → Int32} {k j q : Nat} {v : Int32} (h : q ≠ j) : zu z k j v k q = z k q := by simp [zu, va_up, h]
theorem zu_comm {z : Nat → Nat → Int32} {k j k2 j2 : Nat} {v v2 : Int32} (h : k ≠ k2) : zu (zu z k j v) k2 j2 v2 = zu (zu z k2 j2 v2) k j v := by
  funext a b
  simp only [zu, va_up]
  by_cases h1 : a = k2
  · subst h1
    simp [Ne.symm h]
  · by_cases h2 : a = k
    · subst h2
      simp [h, h1]
    · simp [h1, h2]
theorem va_up_e {α : Type} {Z : Nat → α} {i : Nat} {z : α} : va_up Z i z i = z := by simp [va_up]
theorem va_up_i {α : Type} (Z : Nat → α) (i : Nat) : va_up Z i (Z i) = Z := by
  funext a
  by_cases h : a = i
  · subst h; simp [va_up]
  · simp [va_up, h]
section PVS
variable {κ : pv_Kt} {x : Nat → Nat → Nat} {L : List Nat} {f : Nat → va_E} {Z : Nat → Nat → Nat → Int32} {z : Nat → Nat → Int32} {i k j : Nat}
theorem og_u {row : Nat → Int32} {g : Nat → va_E} (h : pv_ok κ x L g (pv_u (va_up Z i z) i k row)) : pv_ok κ x L g (va_up Z i (va_up z k row)) := by
  have e : pv_u (va_up Z i z) i k row = va_up Z i (va_up z k row) := by rw [pv_u, bx_uu, va_up_e]
  rw [← e]; exact h
/-- an own int field stands at the row's place 0 alone -/
theorem og_zS {g : Nat → va_E} {v : Int32} (hi : i < 9) (hk : k = 1 ∨ k = 14) (h : pv_ok κ x L g (va_up Z i (va_up z k (fun _ => v)))) : pv_ok κ x L g (va_up Z i (zu z k 0 v)) := by
  refine ⟨h.1, h.2.1, fun a b hb => ?_⟩
  rw [h.2.2 a b hb]
  by_cases e : a = i
  · subst e
    simp only [va_up_e]
    have hb14 : b < 14 := by simp only [pv_n, if_pos hi] at hb; exact hb
    simp only [pv_eg, if_pos hi]
    by_cases b1 : b = 1
    · subst b1
      rcases hk with rfl | rfl <;> simp [pv_so, zu, va_up]
    · have hbk : b ≠ k := by omega
      simp [b1, zu, va_up, hbk]
  · simp [va_up, e]
end PVS
section PVT
variable {κ : pv_Kt} {p : Program} {l : Launch} {e : Env} {R : Room} {s : State} {m : MethodId} {args : Array Value} {below : List Frame} {meth : Method} {c : Code} {Q : State → Prop} {A : Nat → Prop} {nL : Nat} {cells slots : Nat} {L : List Nat} {f : Nat → va_E} {pc : Nat} {vs : List (Nat × Value)} {st : List Value}
variable {y : MethodName} {cc : ByteArray} {Ts : List Cond} {rt : Option FieldType}
variable {x : Nat → Nat → Nat} {Z : Nat → Nat → Nat → Int32} {z : Nat → Nat → Int32} {i : Nat}
theorem pv_sl_le : ∀ k : Nat, pv_sl k ≤ 120 := fun k => by unfold pv_sl; split <;> decide
theorem pv_soR {a : Nat → Nat} {w : Nat → Nat → Int32} : ∀ k : Nat, k < 14 → k ≠ 1 → (pv_so a w)[k]? = some (.ref (a k))
  | 0, _, _ => rfl | 1, _, h => absurd rfl h | 2, _, _ => rfl | 3, _, _ => rfl | 4, _, _ => rfl | 5, _, _ => rfl | 6, _, _ => rfl | 7, _, _ => rfl | 8, _, _ => rfl | 9, _, _ => rfl | 10, _, _ => rfl | 11, _, _ => rfl | 12, _, _ => rfl | 13, _, _ => rfl
  | k + 14, h, _ => absurd h (by omega)

theorem og_So (hok : pv_ok κ x L f (va_up Z i z)) (hi : i < 9) : f (x i 1) = .inr (3, pv_so (x i) z) := by
  have h := ok_So hok hi
  rw [va_up_e] at h
  exact h
theorem og_Sa (hok : pv_ok κ x L f (va_up Z i z)) (hi : i < 9) (k : Nat) (hk : k < 14) (h1 : k ≠ 1) : f (x i k) = .inl (κ.2.1 1, pv_sl k, .inl (z k)) := by
  have h := ok_Sa hok hi k hk h1
  rw [va_up_e] at h
  exact h
theorem pgS_geta (hC : pv_C κ p R s m args meth c y cc nL Ts rt A) {index : Nat} (hdg : decode cc pc = .ok (.getfield index, 3)) (k : Nat) (hlink : Cond.fieldLink y.cls index RX3 (TX3 k).2.1 (TX3 k).2.2.1 ∈ Ts) (hin : ∀ w ∈ wsX30, w ∈ Ts) (hok : pv_ok κ x L f (va_up Z i z)) (hi : i < 9) (hk : k < 14) (h1 : k ≠ 1) (hT : (TX3 k).1 = RX3) (kk : pv_G κ p l e R s m args below meth c Q A nL cells slots L f (pc + 3) vs (.ref (x i k) :: st)) : pv_G κ p l e R s m args below meth c Q A nL cells slots L f pc vs (.ref (x i 1) :: st) :=
  pg_get hC hdg k hin hlink (ok_Sm hok hi 1 (by decide)) (og_So hok hi) rfl (by omega) hT (pv_soR k hk h1) kk
theorem pgS_geti (hC : pv_C κ p R s m args meth c y cc nL Ts rt A) {index : Nat} {v : Int32} (hdg : decode cc pc = .ok (.getfield index, 3)) (k : Nat) (hlink : Cond.fieldLink y.cls index RX3 (TX3 k).2.1 (TX3 k).2.2.1 ∈ Ts) (hin : ∀ w ∈ wsX30, w ∈ Ts) (hok : pv_ok κ x L f (va_up Z i z)) (hi : i < 9) (hk : k = 1 ∨ k = 14) (hv : z k 0 = v) (kk : pv_G κ p l e R s m args below meth c Q A nL cells slots L f (pc + 3) vs (.int v :: st)) : pv_G κ p l e R s m args below meth c Q A nL cells slots L f pc vs (.ref (x i 1) :: st) := by
  subst hv
  rcases hk with rfl | rfl
  · exact pg_get hC hdg 1 hin hlink (ok_Sm hok hi 1 (by decide)) (og_So hok hi) rfl (by decide) rfl rfl kk
  · exact pg_get hC hdg 14 hin hlink (ok_Sm hok hi 1 (by decide)) (og_So hok hi) rfl (by decide) rfl rfl kk
theorem pgS_puti (hC : pv_C κ p R s m args meth c y cc nL Ts rt A) {index : Nat} {v : Int32} (hdg : decode cc pc = .ok (.putfield index, 3)) (k : Nat) (hlink : Cond.fieldLink y.cls index RX3 (TX3 k).2.1 (TX3 k).2.2.1 ∈ Ts) (hin : ∀ w ∈ wsX30, w ∈ Ts) (hok : pv_ok κ x L f (va_up Z i z)) (hi : i < 9) (hk : k = 1 ∨ k = 14) (kk : ∀ f2 : Nat → va_E, pv_ok κ x L f2 (va_up Z i (zu z k 0 v)) → pv_G κ p l e R s m args below meth c Q A nL cells slots L f2 (pc + 3) vs st) : pv_G κ p l e R s m args below meth c Q A nL cells slots L f pc vs (.int v :: .ref (x i 1) :: st) := by
  have e1 : va_up Z i z i = z := va_up_e
  rcases hk with rfl | rfl
  · refine pg_put (ty := .int) hC hdg 1 hin tyX3 tyX3_ok nmX3 hlink (ok_Sm hok hi 1 (by decide)) (og_So hok hi) rfl (by decide) rfl rfl (by decide +kernel) rfl rfl (Nat.le_of_ble_eq_true rfl) (kk _ ?_)
    have h := okp_So hok hi v
    rw [e1] at h
    exact og_zS hi (Or.inl rfl) (og_u h)
  · refine pg_put (ty := .int) hC hdg 14 hin tyX3 tyX3_ok nmX3 hlink (ok_Sm hok hi 1 (by decide)) (og_So hok hi) rfl (by decide) rfl rfl (by decide +kernel) rfl rfl (Nat.le_of_ble_eq_true rfl) (kk _ ?_)
    have h := okp_St hok hi v
    rw [e1] at h
    exact og_zS hi (Or.inr rfl) (og_u h)
theorem pgS_iald (hC : pv_C κ p R s m args meth c y cc nL Ts rt A) {ix v : Int32} (hdg : decode cc pc = .ok (.iaload, 1)) (k j : Nat) (hok : pv_ok κ x L f (va_up Z i z)) (hi : i < 9) (hk : k < 14) (h1 : k ≠ 1) (hix : ix = nI j) (hj : j < pv_sl k) (hv : z k j = v) (kk : pv_G κ p l e R s m args below meth c Q A nL cells slots L f (pc + 1) vs (.int v :: st)) : pv_G κ p l e R s m args below meth c Q A nL cells slots L f pc vs (.int ix :: .ref (x i k) :: st) :=
  pg_iald hC hdg j (ok_Sm hok hi k hk) (og_Sa hok hi k hk h1) hix hj (Nat.lt_of_le_of_lt (pv_sl_le k) (by decide)) hv kk
theorem pgS_iast (hC : pv_C κ p R s m args meth c y cc nL Ts rt A) {ix v : Int32} (hdg : decode cc pc = .ok (.iastore, 1)) (k j : Nat) (hok : pv_ok κ x L f (va_up Z i z)) (hi : i < 9) (hk : k < 14) (h1 : k ≠ 1) (hix : ix = nI j) (hj : j < pv_sl k) (kk : ∀ f2 : Nat → va_E, pv_ok κ x L f2 (va_up Z i (zu z k j v)) → pv_G κ p l e R s m args below meth c Q A nL cells slots L f2 (pc + 1) vs st) : pv_G κ p l e R s m args below meth c Q A nL cells slots L f pc vs (.int v :: .int ix :: .ref (x i k) :: st) :=
  pg_iast hC hdg j (ok_Sm hok hi k hk) (og_Sa hok hi k hk h1) hix hj (Nat.lt_of_le_of_lt (pv_sl_le k) (by decide)) (kk _ (og_u (okp_Sa hok hi hk h1 rfl)))
theorem pgS_alen (hC : pv_C κ p R s m args meth c y cc nL Ts rt A) {v : Int32} (hdg : decode cc pc = .ok (.arraylength, 1)) (k : Nat) (hok : pv_ok κ x L f (va_up Z i z)) (hi : i < 9) (hk : k < 14) (h1 : k ≠ 1) (hv : nI (pv_sl k) = v) (kk : pv_G κ p l e R s m args below meth c Q A nL cells slots L f (pc + 1) vs (.int v :: st)) : pv_G κ p l e R s m args below meth c Q A nL cells slots L f pc vs (.ref (x i k) :: st) :=
  pg_alen hC hdg 1 rfl (ok_Sm hok hi k hk) (og_Sa hok hi k hk h1) hv kk
theorem ogz_9 {k : Nat} {g : Nat → va_E} {v : Int32} (hk : k = 1) (h : pv_ok κ x L g (va_up Z 9 (va_up z k (fun _ => v)))) : pv_ok κ x L g (va_up Z 9 (zu z k 0 v)) := by
  refine ⟨h.1, h.2.1, fun a b hb => ?_⟩
  rw [h.2.2 a b hb]
  by_cases e : a = 9
  · subst e
    simp only [va_up_e]
    have hb2 : b < 2 := hb
    rcases (show b = 0 ∨ b = 1 by omega) with rfl | rfl <;> rcases hk with rfl <;> rfl
  · simp [va_up, e]
theorem ogz_10 {k : Nat} {g : Nat → va_E} {v : Int32} (hk : k = 0 ∨ k = 1 ∨ k = 2 ∨ k = 3 ∨ k = 4) (h : pv_ok κ x L g (va_up Z 10 (va_up z k (fun _ => v)))) : pv_ok κ x L g (va_up Z 10 (zu z k 0 v)) := by
  refine ⟨h.1, h.2.1, fun a b hb => ?_⟩
  rw [h.2.2 a b hb]
  by_cases e : a = 10
  · subst e
    simp only [va_up_e]
    have hb2 : b < 1 := hb
    rcases (show b = 0 by omega) with rfl <;> rcases hk with rfl | rfl | rfl | rfl | rfl <;> rfl
  · simp [va_up, e]
theorem ogz_12 {k : Nat} {g : Nat → va_E} {v : Int32} (hk : k = 1 ∨ k = 2) (h : pv_ok κ x L g (va_up Z 12 (va_up z k (fun _ => v)))) : pv_ok κ x L g (va_up Z 12 (zu z k 0 v)) := by
  refine ⟨h.1, h.2.1, fun a b hb => ?_⟩
  rw [h.2.2 a b hb]
  by_cases e : a = 12
  · subst e
    simp only [va_up_e]
    have hb2 : b < 5 := hb
    rcases (show b = 0 ∨ b = 1 ∨ b = 2 ∨ b = 3 ∨ b = 4 by omega) with rfl | rfl | rfl | rfl | rfl <;> rcases hk with rfl | rfl <;> rfl
  · simp [va_up, e]
theorem pgP_geta (hC : pv_C κ p R s m args meth c y cc nL Ts rt A) {index : Nat} (hdg : decode cc pc = .ok (.getfield index, 3)) (k : Nat) (hlink : Cond.fieldLink y.cls index RX1 (TX1 k).2.1 (TX1 k).2.2.1 ∈ Ts) (hin : ∀ w ∈ wsX10, w ∈ Ts) (hok : pv_ok κ x L f (va_up Z 9 z)) (hk : k = 0) (kk : pv_G κ p l e R s m args below meth c Q A nL cells slots L f (pc + 3) vs (.ref (x 9 k) :: st)) : pv_G κ p l e R s m args below meth c Q A nL cells slots L f pc vs (.ref (x 9 1) :: st) := by
  subst hk <;> exact pg_get hC hdg _ hin hlink (ok_mem hok (by decide)) (ok_Po hok) rfl (by decide) rfl rfl kk
theorem pgP_geti (hC : pv_C κ p R s m args meth c y cc nL Ts rt A) {index : Nat} {v : Int32} (hdg : decode cc pc = .ok (.getfield index, 3)) (k : Nat) (hlink : Cond.fieldLink y.cls index RX1 (TX1 k).2.1 (TX1 k).2.2.1 ∈ Ts) (hin : ∀ w ∈ wsX10, w ∈ Ts) (hok : pv_ok κ x L f (va_up Z 9 z)) (hk : k = 1) (hv : z k 0 = v) (kk : pv_G κ p l e R s m args below meth c Q A nL cells slots L f (pc + 3) vs (.int v :: st)) : pv_G κ p l e R s m args below meth c Q A nL cells slots L f pc vs (.ref (x 9 1) :: st) := by
  subst hv
  subst hk <;> exact pg_get hC hdg _ hin hlink (ok_mem hok (by decide)) (ok_Po hok) rfl (by decide) rfl rfl kk
theorem pgP_puti (hC : pv_C κ p R s m args meth c y cc nL Ts rt A) {index : Nat} {v : Int32} (hdg : decode cc pc = .ok (.putfield index, 3)) (k : Nat) (hlink : Cond.fieldLink y.cls index RX1 (TX1 k).2.1 (TX1 k).2.2.1 ∈ Ts) (hin : ∀ w ∈ wsX10, w ∈ Ts) (hok : pv_ok κ x L f (va_up Z 9 z)) (hk : k = 1) (kk : ∀ f2 : Nat → va_E, pv_ok κ x L f2 (va_up Z 9 (zu z k 0 v)) → pv_G κ p l e R s m args below meth c Q A nL cells slots L f2 (pc + 3) vs st) : pv_G κ p l e R s m args below meth c Q A nL cells slots L f pc vs (.int v :: .ref (x 9 1) :: st) := by
  subst hk
  · refine pg_put (ty := .int) hC hdg 1 hin tyX1 tyX1_ok nmX1 hlink (ok_mem hok (by decide)) (ok_Po hok) rfl (by decide) rfl rfl (by decide +kernel) rfl rfl (Nat.le_of_ble_eq_true rfl) (kk _ ?_)
    exact ogz_9 (by decide) (og_u (okp_Po hok v))
theorem pgP_cald (hC : pv_C κ p R s m args meth c y cc nL Ts rt A) {ix v : Int32} (hdg : decode cc pc = .ok (.caload, 1)) (j : Nat) (hok : pv_ok κ x L f (va_up Z 9 z)) (hix : ix = nI j) (hj : j < 60) (hv : z 0 j = v) (kk : pv_G κ p l e R s m args below meth c Q A nL cells slots L f (pc + 1) vs (.int v :: st)) : pv_G κ p l e R s m args below meth c Q A nL cells slots L f pc vs (.int ix :: .ref (x 9 0) :: st) :=
  pg_cald hC hdg j (ok_mem hok (by decide)) (ok_Pa hok) hix hj (by decide) hv kk
theorem pgP_cast (hC : pv_C κ p R s m args meth c y cc nL Ts rt A) {ix v : Int32} (hdg : decode cc pc = .ok (.castore, 1)) (j : Nat) (hok : pv_ok κ x L f (va_up Z 9 z)) (hix : ix = nI j) (hj : j < 60) (hx : vp_nar .char v = v) (kk : ∀ f2 : Nat → va_E, pv_ok κ x L f2 (va_up Z 9 (zu z 0 j v)) → pv_G κ p l e R s m args below meth c Q A nL cells slots L f2 (pc + 1) vs st) : pv_G κ p l e R s m args below meth c Q A nL cells slots L f pc vs (.int v :: .int ix :: .ref (x 9 0) :: st) :=
  pg_cast hC hdg j (ok_mem hok (by decide)) (ok_Pa hok) hix hj (by decide) hx (kk _ (og_u (okp_Pa hok)))
theorem pgR_geti (hC : pv_C κ p R s m args meth c y cc nL Ts rt A) {index : Nat} {v : Int32} (hdg : decode cc pc = .ok (.getfield index, 3)) (k : Nat) (hlink : Cond.fieldLink y.cls index RX2 (TX2 k).2.1 (TX2 k).2.2.1 ∈ Ts) (hin : ∀ w ∈ wsX20, w ∈ Ts) (hok : pv_ok κ x L f (va_up Z 10 z)) (hk : k = 0 ∨ k = 1 ∨ k = 2 ∨ k = 3 ∨ k = 4) (hv : z k 0 = v) (kk : pv_G κ p l e R s m args below meth c Q A nL cells slots L f (pc + 3) vs (.int v :: st)) : pv_G κ p l e R s m args below meth c Q A nL cells slots L f pc vs (.ref (x 10 0) :: st) := by
  subst hv
  rcases hk with rfl | rfl | rfl | rfl | rfl <;> exact pg_get hC hdg _ hin hlink (ok_mem hok (by decide)) (ok_Ro hok) rfl (by decide) rfl rfl kk
theorem pgR_puti (hC : pv_C κ p R s m args meth c y cc nL Ts rt A) {index : Nat} {v : Int32} (hdg : decode cc pc = .ok (.putfield index, 3)) (k : Nat) (hlink : Cond.fieldLink y.cls index RX2 (TX2 k).2.1 (TX2 k).2.2.1 ∈ Ts) (hin : ∀ w ∈ wsX20, w ∈ Ts) (hok : pv_ok κ x L f (va_up Z 10 z)) (hk : k = 0 ∨ k = 1 ∨ k = 2 ∨ k = 3 ∨ k = 4) (kk : ∀ f2 : Nat → va_E, pv_ok κ x L f2 (va_up Z 10 (zu z k 0 v)) → pv_G κ p l e R s m args below meth c Q A nL cells slots L f2 (pc + 3) vs st) : pv_G κ p l e R s m args below meth c Q A nL cells slots L f pc vs (.int v :: .ref (x 10 0) :: st) := by
  rcases hk with rfl | rfl | rfl | rfl | rfl
  · refine pg_put (ty := .int) hC hdg 0 hin tyX2 tyX2_ok nmX2 hlink (ok_mem hok (by decide)) (ok_Ro hok) rfl (by decide) rfl rfl (by decide +kernel) rfl rfl (Nat.le_of_ble_eq_true rfl) (kk _ ?_)
    exact ogz_10 (by decide) (og_u (okp_R0 hok v))
  · refine pg_put (ty := .int) hC hdg 1 hin tyX2 tyX2_ok nmX2 hlink (ok_mem hok (by decide)) (ok_Ro hok) rfl (by decide) rfl rfl (by decide +kernel) rfl rfl (Nat.le_of_ble_eq_true rfl) (kk _ ?_)
    exact ogz_10 (by decide) (og_u (okp_R1 hok v))
  · refine pg_put (ty := .int) hC hdg 2 hin tyX2 tyX2_ok nmX2 hlink (ok_mem hok (by decide)) (ok_Ro hok) rfl (by decide) rfl rfl (by decide +kernel) rfl rfl (Nat.le_of_ble_eq_true rfl) (kk _ ?_)
    exact ogz_10 (by decide) (og_u (okp_R2 hok v))
  · refine pg_put (ty := .int) hC hdg 3 hin tyX2 tyX2_ok nmX2 hlink (ok_mem hok (by decide)) (ok_Ro hok) rfl (by decide) rfl rfl (by decide +kernel) rfl rfl (Nat.le_of_ble_eq_true rfl) (kk _ ?_)
    exact ogz_10 (by decide) (og_u (okp_R3 hok v))
  · refine pg_put (ty := .int) hC hdg 4 hin tyX2 tyX2_ok nmX2 hlink (ok_mem hok (by decide)) (ok_Ro hok) rfl (by decide) rfl rfl (by decide +kernel) rfl rfl (Nat.le_of_ble_eq_true rfl) (kk _ ?_)
    exact ogz_10 (by decide) (og_u (okp_R4 hok v))
theorem pgH_geta (hC : pv_C κ p R s m args meth c y cc nL Ts rt A) {index : Nat} (hdg : decode cc pc = .ok (.getfield index, 3)) (hlink : Cond.fieldLink y.cls index RX0 (TX0 0).2.1 (TX0 0).2.2.1 ∈ Ts) (hin : ∀ w ∈ wsX00, w ∈ Ts) (hok : pv_ok κ x L f Z) (kk : pv_G κ p l e R s m args below meth c Q A nL cells slots L f (pc + 3) vs (.ref (x 12 1) :: st)) : pv_G κ p l e R s m args below meth c Q A nL cells slots L f pc vs (.ref (x 12 0) :: st) :=
  pg_get hC hdg 0 hin hlink (ok_mem hok (by decide)) (ok_Ho hok) rfl (by decide) rfl rfl kk
theorem pgH_aldq (hC : pv_C κ p R s m args meth c y cc nL Ts rt A) {ix : Int32} (hdg : decode cc pc = .ok (.aaload, 1)) (j : Nat) (hok : pv_ok κ x L f Z) (hix : ix = nI j) (hj : j < 6) (kk : pv_G κ p l e R s m args below meth c Q A nL cells slots L f (pc + 1) vs (.ref (x (1 + j) 1) :: st)) : pv_G κ p l e R s m args below meth c Q A nL cells slots L f pc vs (.int ix :: .ref (x 12 1) :: st) :=
  pg_aldq hC hdg j (ok_mem hok (by decide)) (ok_Hs hok) hix hj (by decide) rfl kk
theorem pgX_aldq (hC : pv_C κ p R s m args meth c y cc nL Ts rt A) {ix : Int32} (hdg : decode cc pc = .ok (.aaload, 1)) (j : Nat) (hok : pv_ok κ x L f Z) (hix : ix = nI j) (hj : j < 2) (kk : pv_G κ p l e R s m args below meth c Q A nL cells slots L f (pc + 1) vs (.ref (x (7 + j) 1) :: st)) : pv_G κ p l e R s m args below meth c Q A nL cells slots L f pc vs (.int ix :: .ref (x 12 3) :: st) :=
  pg_aldq hC hdg j (ok_mem hok (by decide)) (ok_Xs hok) hix hj (by decide) rfl kk
theorem pgH_geti (hC : pv_C κ p R s m args meth c y cc nL Ts rt A) {index : Nat} {v : Int32} (hdg : decode cc pc = .ok (.getfield index, 3)) (k : Nat) (hlink : Cond.fieldLink y.cls index RX0 (TX0 k).2.1 (TX0 k).2.2.1 ∈ Ts) (hin : ∀ w ∈ wsX00, w ∈ Ts) (hok : pv_ok κ x L f (va_up Z 12 z)) (hk : k = 1 ∨ k = 2) (hv : z k 0 = v) (kk : pv_G κ p l e R s m args below meth c Q A nL cells slots L f (pc + 3) vs (.int v :: st)) : pv_G κ p l e R s m args below meth c Q A nL cells slots L f pc vs (.ref (x 12 0) :: st) := by
  subst hv
  rcases hk with rfl | rfl <;> exact pg_get hC hdg _ hin hlink (ok_mem hok (by decide)) (ok_Ho hok) rfl (by decide) rfl rfl kk
theorem pgH_puti (hC : pv_C κ p R s m args meth c y cc nL Ts rt A) {index : Nat} {v : Int32} (hdg : decode cc pc = .ok (.putfield index, 3)) (k : Nat) (hlink : Cond.fieldLink y.cls index RX0 (TX0 k).2.1 (TX0 k).2.2.1 ∈ Ts) (hin : ∀ w ∈ wsX00, w ∈ Ts) (hok : pv_ok κ x L f (va_up Z 12 z)) (hk : k = 1 ∨ k = 2) (kk : ∀ f2 : Nat → va_E, pv_ok κ x L f2 (va_up Z 12 (zu z k 0 v)) → pv_G κ p l e R s m args below meth c Q A nL cells slots L f2 (pc + 3) vs st) : pv_G κ p l e R s m args below meth c Q A nL cells slots L f pc vs (.int v :: .ref (x 12 0) :: st) := by
  rcases hk with rfl | rfl
  · refine pg_put (ty := .int) hC hdg 1 hin tyX0 tyX0_ok nmX0 hlink (ok_mem hok (by decide)) (ok_Ho hok) rfl (by decide) rfl rfl (by decide +kernel) rfl rfl (Nat.le_of_ble_eq_true rfl) (kk _ ?_)
    exact ogz_12 (by decide) (og_u (okp_H1 hok v))
  · refine pg_put (ty := .int) hC hdg 2 hin tyX0 tyX0_ok nmX0 hlink (ok_mem hok (by decide)) (ok_Ho hok) rfl (by decide) rfl rfl (by decide +kernel) rfl rfl (Nat.le_of_ble_eq_true rfl) (kk _ ?_)
    exact ogz_12 (by decide) (og_u (okp_H2 hok v))
theorem pgX_get0 (hC : pv_C κ p R s m args meth c y cc nL Ts rt A) {index : Nat} (hdg : decode cc pc = .ok (.getfield index, 3)) (hlink : Cond.fieldLink y.cls index RX4 (TX4 0).2.1 (TX4 0).2.2.1 ∈ Ts) (hin : ∀ w ∈ wsX40, w ∈ Ts) (hok : pv_ok κ x L f Z) (kk : pv_G κ p l e R s m args below meth c Q A nL cells slots L f (pc + 3) vs (.ref (x 0 1) :: st)) : pv_G κ p l e R s m args below meth c Q A nL cells slots L f pc vs (.ref (x 12 2) :: st) :=
  pg_get hC hdg 0 hin hlink (ok_mem hok (by decide)) (ok_Xo hok) rfl (by decide) rfl rfl kk
theorem pgX_get1 (hC : pv_C κ p R s m args meth c y cc nL Ts rt A) {index : Nat} (hdg : decode cc pc = .ok (.getfield index, 3)) (hlink : Cond.fieldLink y.cls index RX4 (TX4 1).2.1 (TX4 1).2.2.1 ∈ Ts) (hin : ∀ w ∈ wsX40, w ∈ Ts) (hok : pv_ok κ x L f Z) (kk : pv_G κ p l e R s m args below meth c Q A nL cells slots L f (pc + 3) vs (.ref (x 12 0) :: st)) : pv_G κ p l e R s m args below meth c Q A nL cells slots L f pc vs (.ref (x 12 2) :: st) :=
  pg_get hC hdg 1 hin hlink (ok_mem hok (by decide)) (ok_Xo hok) rfl (by decide) rfl rfl kk
theorem pgX_get2 (hC : pv_C κ p R s m args meth c y cc nL Ts rt A) {index : Nat} (hdg : decode cc pc = .ok (.getfield index, 3)) (hlink : Cond.fieldLink y.cls index RX4 (TX4 2).2.1 (TX4 2).2.2.1 ∈ Ts) (hin : ∀ w ∈ wsX40, w ∈ Ts) (hok : pv_ok κ x L f Z) (kk : pv_G κ p l e R s m args below meth c Q A nL cells slots L f (pc + 3) vs (.ref (x 12 3) :: st)) : pv_G κ p l e R s m args below meth c Q A nL cells slots L f pc vs (.ref (x 12 2) :: st) :=
  pg_get hC hdg 2 hin hlink (ok_mem hok (by decide)) (ok_Xo hok) rfl (by decide) rfl rfl kk
theorem pgX_get3 (hC : pv_C κ p R s m args meth c y cc nL Ts rt A) {index : Nat} (hdg : decode cc pc = .ok (.getfield index, 3)) (hlink : Cond.fieldLink y.cls index RX4 (TX4 3).2.1 (TX4 3).2.2.1 ∈ Ts) (hin : ∀ w ∈ wsX40, w ∈ Ts) (hok : pv_ok κ x L f Z) (kk : pv_G κ p l e R s m args below meth c Q A nL cells slots L f (pc + 3) vs (.ref (x 12 4) :: st)) : pv_G κ p l e R s m args below meth c Q A nL cells slots L f pc vs (.ref (x 12 2) :: st) :=
  pg_get hC hdg 3 hin hlink (ok_mem hok (by decide)) (ok_Xo hok) rfl (by decide) rfl rfl kk
theorem pgX_get4 (hC : pv_C κ p R s m args meth c y cc nL Ts rt A) {index : Nat} (hdg : decode cc pc = .ok (.getfield index, 3)) (hlink : Cond.fieldLink y.cls index RX4 (TX4 4).2.1 (TX4 4).2.2.1 ∈ Ts) (hin : ∀ w ∈ wsX40, w ∈ Ts) (hok : pv_ok κ x L f Z) (kk : pv_G κ p l e R s m args below meth c Q A nL cells slots L f (pc + 3) vs (.ref (x 9 1) :: st)) : pv_G κ p l e R s m args below meth c Q A nL cells slots L f pc vs (.ref (x 12 2) :: st) :=
  pg_get hC hdg 4 hin hlink (ok_mem hok (by decide)) (ok_Xo hok) rfl (by decide) rfl rfl kk
theorem pgX_get5 (hC : pv_C κ p R s m args meth c y cc nL Ts rt A) {index : Nat} (hdg : decode cc pc = .ok (.getfield index, 3)) (hlink : Cond.fieldLink y.cls index RX4 (TX4 5).2.1 (TX4 5).2.2.1 ∈ Ts) (hin : ∀ w ∈ wsX40, w ∈ Ts) (hok : pv_ok κ x L f Z) (kk : pv_G κ p l e R s m args below meth c Q A nL cells slots L f (pc + 3) vs (.ref (x 10 0) :: st)) : pv_G κ p l e R s m args below meth c Q A nL cells slots L f pc vs (.ref (x 12 2) :: st) :=
  pg_get hC hdg 5 hin hlink (ok_mem hok (by decide)) (ok_Xo hok) rfl (by decide) rfl rfl kk
theorem pgX_zald (hC : pv_C κ p R s m args meth c y cc nL Ts rt A) {ix v : Int32} (hdg : decode cc pc = .ok (.baload, 1)) (j : Nat) (hok : pv_ok κ x L f Z) (hix : ix = nI j) (hj : j < 2) (hv : Z 12 4 j = v) (kk : pv_G κ p l e R s m args below meth c Q A nL cells slots L f (pc + 1) vs (.int v :: st)) : pv_G κ p l e R s m args below meth c Q A nL cells slots L f pc vs (.int ix :: .ref (x 12 4) :: st) :=
  pg_zald hC hdg j (ok_mem hok (by decide)) (ok_Xb hok) hix hj (by decide) hv kk
theorem pgX_zast (hC : pv_C κ p R s m args meth c y cc nL Ts rt A) {ix v : Int32} (hdg : decode cc pc = .ok (.bastore, 1)) (j : Nat) (hok : pv_ok κ x L f (va_up Z 12 z)) (hix : ix = nI j) (hj : j < 2) (hx : vp_nar .boolean v = v) (kk : ∀ f2 : Nat → va_E, pv_ok κ x L f2 (va_up Z 12 (zu z 4 j v)) → pv_G κ p l e R s m args below meth c Q A nL cells slots L f2 (pc + 1) vs st) : pv_G κ p l e R s m args below meth c Q A nL cells slots L f pc vs (.int v :: .int ix :: .ref (x 12 4) :: st) :=
  pg_zast hC hdg j (ok_mem hok (by decide)) (ok_Xb hok) hix hj (by decide) hx (kk _ (og_u (okp_X4 hok)))
end PVT
