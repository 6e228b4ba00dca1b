/-! ===== p25: what holds of every school's table: IV z n K (n excuses, K offers and terms at most) ===== -/
def ns (f : Nat → Nat) : Nat → Nat | 0 => 0 | n + 1 => ns f n + f n
section NS
variable {f g : Nat → Nat} {n j : Nat}
theorem ns_congr : ∀ {n : Nat}, (∀ j : Nat, j < n → f j = g j) → ns f n = ns g n
  | 0, _ => rfl
  | n + 1, h => by
    show ns f n + f n = ns g n + g n
    rw [ns_congr (fun j hj => h j (by omega)), h n (by omega)]
theorem ns_le : ∀ {n : Nat}, j < n → f j ≤ ns f n
  | 0, h => absurd h (Nat.not_lt_zero j)
  | n + 1, h => by
    show f j ≤ ns f n + f n
    rcases Nat.lt_or_ge j n with c | c
    · have := ns_le c; omega
    · have e : j = n := by omega
      subst e; omega
theorem ns_mono : ∀ {n : Nat}, (∀ j : Nat, j < n → f j ≤ g j) → ns f n ≤ ns g n
  | 0, _ => Nat.le_refl _
  | n + 1, h => by
    show ns f n + f n ≤ ns g n + g n
    have h1 : ns f n ≤ ns g n := ns_mono (fun j hj => h j (by omega))
    have h2 := h n (by omega)
    omega
theorem ns_out (v : Nat) : ∀ {n : Nat}, n ≤ j → ns (va_up f j v) n = ns f n := fun h => ns_congr (fun i hi => va_up_ne _ _ (by omega))
theorem ns_up (c : Nat) : ∀ {n : Nat}, j < n → ns (va_up f j (f j + c)) n = ns f n + c
  | 0, h => absurd h (Nat.not_lt_zero j)
  | n + 1, h => by
    show ns (va_up f j (f j + c)) n + va_up f j (f j + c) n = ns f n + f n + c
    rcases Nat.lt_or_ge j n with q | q
    · rw [ns_up c q, va_up_ne _ _ (by omega)]; omega
    · have e : j = n := by omega
      subst e
      rw [ns_out _ (Nat.le_refl _), va_up_e]; omega
theorem ns_z : ∀ {n : Nat}, (∀ j : Nat, j < n → f j = 0) → ns f n = 0
  | 0, _ => rfl
  | n + 1, h => by
    show ns f n + f n = 0
    rw [ns_z (fun j hj => h j (by omega)), h n (by omega)]
theorem ns_0 (h : ns f n = 0) (hj : j < n) : f j = 0 := by have := ns_le (f := f) hj; omega
theorem ns_add : ∀ {n : Nat}, ns (fun j => f j + g j) n = ns f n + ns g n
  | 0 => rfl
  | n + 1 => by
    show ns (fun j => f j + g j) n + (f n + g n) = ns f n + f n + (ns g n + g n)
    rw [ns_add]; omega
theorem ns_rng (a : Nat) : ∀ {b : Nat}, ns f (a + b) = ns f a + ns (fun j => f (a + j)) b
  | 0 => rfl
  | b + 1 => by
    show ns f (a + b) + f (a + b) = ns f a + (ns (fun j => f (a + j)) b + f (a + b))
    rw [ns_rng a]; omega
theorem ns_rows : ∀ m : Nat, ns f (m * 12) = ns (fun p => ns (fun e => f (p * 12 + e)) 12) m
  | 0 => rfl
  | m + 1 => by
    show ns f ((m + 1) * 12) = ns (fun p => ns (fun e => f (p * 12 + e)) 12) m + ns (fun e => f (m * 12 + e)) 12
    rw [show (m + 1) * 12 = m * 12 + 12 by omega, ns_rng, ns_rows m]
theorem ns_swap (F : Nat → Nat → Nat) (m : Nat) : ∀ n : Nat, ns (fun i => ns (fun j => F i j) m) n = ns (fun j => ns (fun i => F i j) n) m
  | 0 => (ns_z (fun _ _ => rfl)).symm
  | n + 1 => by
    show ns (fun i => ns (fun j => F i j) m) n + ns (fun j => F n j) m = ns (fun j => ns (fun i => F i j) n + F n j) m
    rw [ns_swap F m n, ns_add]
theorem ns_cut {m : Nat} (h : n ≤ m) (hz : ∀ j : Nat, n ≤ j → j < m → f j = 0) : ns f m = ns f n := by
  obtain ⟨b, rfl⟩ : ∃ b, m = n + b := ⟨m - n, by omega⟩
  rw [ns_rng, ns_z (fun j hj => hz (n + j) (by omega) (by omega)), Nat.add_zero]
theorem bx_ns {g : Nat → Int32} : ∀ {n : Nat}, (∀ j : Nat, j < n → g j = nI (f j)) → bx_sum g n = nI (ns f n)
  | 0, _ => rfl
  | n + 1, h => by
    show bx_sum g n + g n = nI (ns f n + f n)
    rw [bx_ns (fun j hj => h j (by omega)), h n (by omega), nI_add]
theorem bx_out {g : Nat → Int32} (v : Int32) : ∀ {n : Nat}, n ≤ j → bx_sum (va_up g j v) n = bx_sum g n := fun h => bx_congr (fun i hi => va_up_ne _ _ (by omega))
theorem bx_up {g : Nat → Int32} (c : Int32) : ∀ {n : Nat}, j < n → bx_sum (va_up g j (g j + c)) n = bx_sum g n + c
  | 0, h => absurd h (Nat.not_lt_zero j)
  | n + 1, h => by
    show bx_sum (va_up g j (g j + c)) n + va_up g j (g j + c) n = bx_sum g n + g n + c
    rcases Nat.lt_or_ge j n with q | q
    · rw [bx_up c q, va_up_ne _ _ (by omega), Int32.add_assoc, Int32.add_comm c, Int32.add_assoc]
    · have e : j = n := by omega
      subst e
      rw [bx_out _ (Nat.le_refl _), va_up_e, Int32.add_assoc]
end NS
def iS (a : Nat → Int32) : Prop := ∀ j : Nat, j < 5 → ¬ bW (a j) (pv_t1 j) (pv_t2 j) = 0
def iE (n : Nat) (kd wh : Nat → Int32) : Prop := ∀ e : Nat, e < n → (∃ k : Nat, k < 5 ∧ kd e = nI k) ∧ ∃ v : Nat, 1 ≤ v ∧ v ≤ 99 ∧ wh e = nI v
def iU (n K : Nat) (u a s lt : Nat → Int32) : Prop := ∃ U A S : Nat → Nat,
  (∀ j : Nat, j < 120 → u j = nI (U j)) ∧ (∀ e : Nat, e < 12 → a e = nI (A e)) ∧ (∀ p : Nat, p < 10 → s p = nI (S p)) ∧
  (∀ e : Nat, n ≤ e → e < 12 → A e = 0 ∧ ∀ p : Nat, p < 10 → U (p * 12 + e) = 0) ∧
  (∀ e : Nat, e < 12 → ns (fun p => U (p * 12 + e)) 10 ≤ A e) ∧
  (∀ p : Nat, p < 10 → ns (fun e => U (p * 12 + e)) 12 ≤ S p) ∧
  (∀ p : Nat, p < 10 → lt p = -6 → ns (fun e => U (p * 12 + e)) 12 = 0) ∧
  ns A 12 = ns S 10 ∧ ns S 10 ≤ K
def iL (lt : Nat → Int32) : Prop := ∀ p : Nat, p < 10 → lt p = -6 ∨ ∃ k : Nat, k < 5 ∧ lt p = nI k
def iF (K : Nat) (f pd r q : Nat → Int32) : Prop := ∃ F D R Q : Nat → Nat,
  (∀ p : Nat, p < 10 → f p = nI (F p) ∧ pd p = nI (D p) ∧ r p = nI (R p)) ∧ (∀ k : Nat, 1 ≤ k → k ≤ 4 → q k = nI (Q k)) ∧
  ns R 10 = Q 1 + Q 2 + Q 3 + Q 4 ∧ (∀ p : Nat, p < 10 → R p = 0 → F p + D p = 0) ∧ (∀ p : Nat, p < 10 → F p + D p ≤ 5940 * K) ∧ ns R 10 ≤ K
def iC (c : Nat → Int32) : Prop := ∀ p : Nat, p < 10 → ∃ v : Nat, v ≤ 9 ∧ c p = nI v
def iG (g : Nat → Int32) : Prop := ∀ m : Nat, m < 5 → ∃ v : Nat, v ≤ 9 ∧ g m = nI v
def iT (K : Nat) (t : Nat → Int32) : Prop := ∃ v : Nat, v ≤ K ∧ t 0 = nI v
def IV (z : Nat → Nat → Int32) (n K : Nat) : Prop := (z 1 0 = nI n ∧ n ≤ 12) ∧ iS (z 0) ∧ iE n (z 2) (z 3) ∧ iU n K (z 5) (z 4) (z 9) (z 11) ∧ iL (z 11) ∧ iF K (z 7) (z 8) (z 10) (z 13) ∧ iC (z 6) ∧ iG (z 12) ∧ iT K (z 14)
section IVS
variable {z w : Nat → Nat → Int32} {n K K2 : Nat}
theorem IV.nn (h : IV z n K) : z 1 0 = nI n := h.1.1
theorem IV.n12 (h : IV z n K) : n ≤ 12 := h.1.2
theorem IV.mono (h : IV z n K) (hK : K ≤ K2) : IV z n K2 := by
  obtain ⟨h1, h2, h3, ⟨U, A, S, u1, u2, u3, u4, u5, u6, u7, u8, u9⟩, h5, ⟨F, D, R, Q, f1, f2, f3, f4, f5, f6⟩, h7, h8, ⟨v, t1, t2⟩⟩ := h
  exact ⟨h1, h2, h3, ⟨U, A, S, u1, u2, u3, u4, u5, u6, u7, u8, Nat.le_trans u9 hK⟩, h5, ⟨F, D, R, Q, f1, f2, f3, f4, fun p hp => Nat.le_trans (f5 p hp) (Nat.mul_le_mul_left _ hK), Nat.le_trans f6 hK⟩, h7, h8, ⟨v, Nat.le_trans t1 hK, t2⟩⟩
theorem IV.sm (h : IV z n K) (e : sm z w) : IV w n K := by
  obtain ⟨⟨h1, h1b⟩, h2, h3, ⟨U, A, S, u1, u2, u3, u4, u5, u6, u7, u8, u9⟩, h5, ⟨F, D, R, Q, f1, f2, f3, f4, f5, f6⟩, h7, h8, ⟨v, t1, t2⟩⟩ := h
  refine ⟨⟨(e 1 0 rfl) ▸ h1, h1b⟩, fun j hj => by rw [← e 0 j hj]; exact h2 j hj, fun x hx => ?_, ⟨U, A, S, fun j hj => by rw [← e 5 j hj]; exact u1 j hj, fun j hj => by rw [← e 4 j hj]; exact u2 j hj, fun j hj => by rw [← e 9 j hj]; exact u3 j hj, u4, u5, u6, fun p hp q => u7 p hp (by rw [e 11 p hp]; exact q), u8, u9⟩, fun p hp => by rw [← e 11 p hp]; exact h5 p hp, ⟨F, D, R, Q, fun p hp => by rw [← e 7 p hp, ← e 8 p hp, ← e 10 p hp]; exact f1 p hp, fun k k1 k4 => by rw [← e 13 k ⟨k1, k4⟩]; exact f2 k k1 k4, f3, f4, f5, f6⟩, fun p hp => by rw [← e 6 p hp]; exact h7 p hp, fun m hm => by rw [← e 12 m hm]; exact h8 m hm, ⟨v, t1, by rw [← e 14 0 rfl]; exact t2⟩⟩
  rw [← e 2 x (show x < 12 by omega), ← e 3 x (show x < 12 by omega)]
  exact h3 x hx
end IVS
