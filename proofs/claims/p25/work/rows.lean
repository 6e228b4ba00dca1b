section
-- ===== PART A: goes FIRST, ahead of the names: the tables' words, and 'selects' of the private methods out of them =====
/-- a private method of a class that the tables say can be made, by its rows of tables_1 -/
def lw_okq (q : MethodName × Nat) : Prop := (q.1.cls ≠ "java/lang/invoke/MethodHandle" ∧ q.1.cls ≠ "java/lang/invoke/VarHandle") ∧ Cond.instantiable q.1.cls q.2 ∈ tables_1 ∧ Cond.privateMethod q.1 ∈ tables_1 ∧ Cond.instanceMethod q.1 ∈ tables_1
theorem lw_p0 : lw_okq (⟨"ExcuseTariffs", "offerError", "(IIII)I"⟩, 6) := ⟨⟨by decide +kernel, by decide +kernel⟩, List.mem_of_getElem? (i := 9) (by decide +kernel), List.mem_of_getElem? (i := 322) (by decide +kernel), List.mem_of_getElem? (i := 323) (by decide +kernel)⟩
theorem lw_p1 : lw_okq (⟨"ExcuseTariffs$Reader", "takesPupil", "(C)Z"⟩, 5) := ⟨⟨by decide +kernel, by decide +kernel⟩, List.mem_of_getElem? (i := 133) (by decide +kernel), List.mem_of_getElem? (i := 405) (by decide +kernel), List.mem_of_getElem? (i := 406) (by decide +kernel)⟩
theorem lw_p2 : lw_okq (⟨"ExcuseTariffs$Reader", "goesOn", "(ZI)Z"⟩, 5) := ⟨⟨by decide +kernel, by decide +kernel⟩, List.mem_of_getElem? (i := 133) (by decide +kernel), List.mem_of_getElem? (i := 413) (by decide +kernel), List.mem_of_getElem? (i := 414) (by decide +kernel)⟩
theorem lw_p3 : lw_okq (⟨"ExcuseTariffs$Reader", "takesExcuse", "(C)Z"⟩, 5) := ⟨⟨by decide +kernel, by decide +kernel⟩, List.mem_of_getElem? (i := 133) (by decide +kernel), List.mem_of_getElem? (i := 417) (by decide +kernel), List.mem_of_getElem? (i := 418) (by decide +kernel)⟩
theorem lw_p4 : lw_okq (⟨"ExcuseTariffs$Reader", "takesMinutes", "(CII)Z"⟩, 5) := ⟨⟨by decide +kernel, by decide +kernel⟩, List.mem_of_getElem? (i := 133) (by decide +kernel), List.mem_of_getElem? (i := 421) (by decide +kernel), List.mem_of_getElem? (i := 422) (by decide +kernel)⟩
theorem lw_p5 : lw_okq (⟨"ExcuseTariffs$Reader", "takesAfterMinutes", "(C)Z"⟩, 5) := ⟨⟨by decide +kernel, by decide +kernel⟩, List.mem_of_getElem? (i := 133) (by decide +kernel), List.mem_of_getElem? (i := 425) (by decide +kernel), List.mem_of_getElem? (i := 426) (by decide +kernel)⟩
theorem lw_p6 : lw_okq (⟨"ExcuseTariffs$Reader", "takesComma", "(C)Z"⟩, 5) := ⟨⟨by decide +kernel, by decide +kernel⟩, List.mem_of_getElem? (i := 133) (by decide +kernel), List.mem_of_getElem? (i := 429) (by decide +kernel), List.mem_of_getElem? (i := 430) (by decide +kernel)⟩
theorem lw_p7 : lw_okq (⟨"ExcuseTariffs$Reader", "takesWitness", "(C)Z"⟩, 5) := ⟨⟨by decide +kernel, by decide +kernel⟩, List.mem_of_getElem? (i := 133) (by decide +kernel), List.mem_of_getElem? (i := 433) (by decide +kernel), List.mem_of_getElem? (i := 434) (by decide +kernel)⟩
theorem lw_p8 : lw_okq (⟨"ExcuseTariffs", "stampsForWhatWasRead", "()I"⟩, 6) := ⟨⟨by decide +kernel, by decide +kernel⟩, List.mem_of_getElem? (i := 9) (by decide +kernel), List.mem_of_getElem? (i := 441) (by decide +kernel), List.mem_of_getElem? (i := 442) (by decide +kernel)⟩
def lw_privs_1 : List (MethodName × Nat) := [(⟨"ExcuseTariffs", "offerError", "(IIII)I"⟩, 6), (⟨"ExcuseTariffs$Reader", "takesPupil", "(C)Z"⟩, 5), (⟨"ExcuseTariffs$Reader", "goesOn", "(ZI)Z"⟩, 5), (⟨"ExcuseTariffs$Reader", "takesExcuse", "(C)Z"⟩, 5), (⟨"ExcuseTariffs$Reader", "takesMinutes", "(CII)Z"⟩, 5), (⟨"ExcuseTariffs$Reader", "takesAfterMinutes", "(C)Z"⟩, 5), (⟨"ExcuseTariffs$Reader", "takesComma", "(C)Z"⟩, 5), (⟨"ExcuseTariffs$Reader", "takesWitness", "(C)Z"⟩, 5), (⟨"ExcuseTariffs", "stampsForWhatWasRead", "()I"⟩, 6)]
theorem lw_r1 : ∀ q ∈ lw_privs_1, lw_okq q := List.forall_mem_cons.mpr ⟨lw_p0, List.forall_mem_cons.mpr ⟨lw_p1, List.forall_mem_cons.mpr ⟨lw_p2, List.forall_mem_cons.mpr ⟨lw_p3, List.forall_mem_cons.mpr ⟨lw_p4, List.forall_mem_cons.mpr ⟨lw_p5, List.forall_mem_cons.mpr ⟨lw_p6, List.forall_mem_cons.mpr ⟨lw_p7, List.forall_mem_cons.mpr ⟨lw_p8, fun _ h => absurd h List.not_mem_nil⟩⟩⟩⟩⟩⟩⟩⟩⟩
def lw_privs : List (MethodName × Nat) := lw_privs_1
def lw_tbl : List Cond := k2_sels lw_privs ++ tables_1
theorem lw_privs_ok : ∀ q ∈ lw_privs, lw_okq q := lw_r1
end
section
/-! ===== BEGIN words of one list among another's, by their places ===== -/
theorem goodIn_r {big : List Cond} (ws : List Cond) (ps : List Nat) (hp : ws = ps.filterMap (fun i => big[i]?)) (h : ws.all goodWord = true) : GoodIn big ws := by
  intro w hw
  have h1 := List.all_eq_true.mp h w hw
  rw [hp] at hw
  obtain ⟨i, -, hi⟩ := List.mem_filterMap.mp hw
  have hm : w ∈ big := by first | exact List.mem_of_getElem? hi | exact List.getElem?_mem hi
  exact ⟨hm, good_of_word h1⟩
theorem goodIn_app {big a b : List Cond} (ha : GoodIn big a) (hb : GoodIn big b) : GoodIn big (a ++ b) := fun w h => (List.mem_append.mp h).elim (ha w) (hb w)
theorem goodIn_ca {big a b : List Cond} {c : Cond} (ha : GoodIn big (c :: a)) (hb : GoodIn big b) : GoodIn big (c :: (a ++ b)) := fun w h => (List.mem_cons.mp h).elim (fun e => ha w (List.mem_cons.mpr (Or.inl e))) (fun h => (List.mem_append.mp h).elim (fun h => ha w (List.mem_cons.mpr (Or.inr h))) (hb w))
theorem goodIn_sub {big ws : List Cond} (hm : ∀ w ∈ ws, w ∈ big) (h : ws.all goodWord = true) : GoodIn big ws := fun w hw => ⟨hm w hw, good_of_word (List.all_eq_true.mp h w hw)⟩
/-! ===== END ===== -/

/-! ===== BEGIN printed: names, fields, word lists, decode rows ===== -/
def RX0 : String := "ExcuseTariffs$History"
def TX0 : u_T := fun k => match k with
  | 0 => ("ExcuseTariffs$History", "states", "[LExcuseTariffs$School;", true)
  | 1 => ("ExcuseTariffs$History", "next", "I", false)
  | _ => ("ExcuseTariffs$History", "kept", "I", false)
def tyX0 : Nat → FieldType := fun k => match k with
  | 0 => .array (.object "ExcuseTariffs$School")
  | 1 => .int
  | _ => .int
abbrev wsX00 : List Cond := u_ws RX0 TX0 3
theorem nmX0 : ∀ a, a < 3 → ∀ b, b < 3 → a ≠ b → (TX0 a).2.1 ≠ (TX0 b).2.1 := by decide +kernel
theorem tyX0_ok : ∀ k, k < 3 → parseFieldDescriptor (TX0 k).2.2.1 = some (tyX0 k) := by decide +kernel
abbrev cX0_init : ByteArray := prog_2_method_1_code
def yX0_init : MethodName := ⟨RX0, "<init>", "()V"⟩
abbrev cX0_keep : ByteArray := prog_2_method_2_code
def yX0_keep : MethodName := ⟨RX0, "keep", "(LExcuseTariffs$School;)V"⟩
abbrev cX0_takeBack : ByteArray := prog_2_method_3_code
def yX0_takeBack : MethodName := ⟨RX0, "takeBack", "(LExcuseTariffs$School;)V"⟩
def RX1 : String := "ExcuseTariffs$Pad"
def TX1 : u_T := fun k => match k with
  | 0 => ("ExcuseTariffs$Pad", "characters", "[C", true)
  | _ => ("ExcuseTariffs$Pad", "length", "I", false)
def tyX1 : Nat → FieldType := fun k => match k with
  | 0 => .array .char
  | _ => .int
abbrev wsX10 : List Cond := u_ws RX1 TX1 2
theorem nmX1 : ∀ a, a < 2 → ∀ b, b < 2 → a ≠ b → (TX1 a).2.1 ≠ (TX1 b).2.1 := by decide +kernel
theorem tyX1_ok : ∀ k, k < 2 → parseFieldDescriptor (TX1 k).2.2.1 = some (tyX1 k) := by decide +kernel
abbrev cX1_init : ByteArray := prog_3_method_1_code
def yX1_init : MethodName := ⟨RX1, "<init>", "()V"⟩
def RX2 : String := "ExcuseTariffs$Reader"
def TX2 : u_T := fun k => match k with
  | 0 => ("ExcuseTariffs$Reader", "place", "I", false)
  | 1 => ("ExcuseTariffs$Reader", "pupil", "I", false)
  | 2 => ("ExcuseTariffs$Reader", "excuse", "I", false)
  | 3 => ("ExcuseTariffs$Reader", "minutes", "I", false)
  | _ => ("ExcuseTariffs$Reader", "witness", "I", false)
def tyX2 : Nat → FieldType := fun k => match k with
  | 0 => .int
  | 1 => .int
  | 2 => .int
  | 3 => .int
  | _ => .int
abbrev wsX20 : List Cond := u_ws RX2 TX2 5
theorem nmX2 : ∀ a, a < 5 → ∀ b, b < 5 → a ≠ b → (TX2 a).2.1 ≠ (TX2 b).2.1 := by decide +kernel
theorem tyX2_ok : ∀ k, k < 5 → parseFieldDescriptor (TX2 k).2.2.1 = some (tyX2 k) := by decide +kernel
abbrev cX2_init : ByteArray := prog_4_method_1_code
def yX2_init : MethodName := ⟨RX2, "<init>", "()V"⟩
abbrev cX2_begin : ByteArray := prog_4_method_2_code
def yX2_begin : MethodName := ⟨RX2, "begin", "()V"⟩
abbrev cX2_takes : ByteArray := prog_4_method_3_code
def yX2_takes : MethodName := ⟨RX2, "takes", "(C)Z"⟩
abbrev cX2_canEnd : ByteArray := prog_4_method_4_code
def yX2_canEnd : MethodName := ⟨RX2, "canEnd", "()Z"⟩
abbrev cX2_goesOn : ByteArray := prog_4_method_5_code
def yX2_goesOn : MethodName := ⟨RX2, "goesOn", "(ZI)Z"⟩
abbrev cX2_takesPupil : ByteArray := prog_4_method_6_code
def yX2_takesPupil : MethodName := ⟨RX2, "takesPupil", "(C)Z"⟩
abbrev cX2_takesExcuse : ByteArray := prog_4_method_7_code
def yX2_takesExcuse : MethodName := ⟨RX2, "takesExcuse", "(C)Z"⟩
abbrev cX2_takesMinutes : ByteArray := prog_4_method_8_code
def yX2_takesMinutes : MethodName := ⟨RX2, "takesMinutes", "(CII)Z"⟩
abbrev cX2_takesAfterMinutes : ByteArray := prog_4_method_9_code
def yX2_takesAfterMinutes : MethodName := ⟨RX2, "takesAfterMinutes", "(C)Z"⟩
abbrev cX2_takesWitness : ByteArray := prog_4_method_10_code
def yX2_takesWitness : MethodName := ⟨RX2, "takesWitness", "(C)Z"⟩
abbrev cX2_takesComma : ByteArray := prog_4_method_11_code
def yX2_takesComma : MethodName := ⟨RX2, "takesComma", "(C)Z"⟩
abbrev cX2_isDigit : ByteArray := prog_4_method_12_code
def yX2_isDigit : MethodName := ⟨RX2, "isDigit", "(C)Z"⟩
def RX3 : String := "ExcuseTariffs$School"
def TX3 : u_T := fun k => match k with
  | 0 => ("ExcuseTariffs$School", "settings", "[I", true)
  | 1 => ("ExcuseTariffs$School", "excuses", "I", false)
  | 2 => ("ExcuseTariffs$School", "kinds", "[I", true)
  | 3 => ("ExcuseTariffs$School", "worths", "[I", true)
  | 4 => ("ExcuseTariffs$School", "usesInAllTerms", "[I", true)
  | 5 => ("ExcuseTariffs$School", "uses", "[I", true)
  | 6 => ("ExcuseTariffs$School", "credits", "[I", true)
  | 7 => ("ExcuseTariffs$School", "fines", "[I", true)
  | 8 => ("ExcuseTariffs$School", "paid", "[I", true)
  | 9 => ("ExcuseTariffs$School", "stamps", "[I", true)
  | 10 => ("ExcuseTariffs$School", "refusals", "[I", true)
  | 11 => ("ExcuseTariffs$School", "latestKinds", "[I", true)
  | 12 => ("ExcuseTariffs$School", "grudges", "[I", true)
  | 13 => ("ExcuseTariffs$School", "refusedFor", "[I", true)
  | _ => ("ExcuseTariffs$School", "termsEnded", "I", false)
def tyX3 : Nat → FieldType := fun k => match k with
  | 0 => .array .int
  | 1 => .int
  | 2 => .array .int
  | 3 => .array .int
  | 4 => .array .int
  | 5 => .array .int
  | 6 => .array .int
  | 7 => .array .int
  | 8 => .array .int
  | 9 => .array .int
  | 10 => .array .int
  | 11 => .array .int
  | 12 => .array .int
  | 13 => .array .int
  | _ => .int
abbrev wsX30 : List Cond := u_ws RX3 TX3 15
theorem nmX3 : ∀ a, a < 15 → ∀ b, b < 15 → a ≠ b → (TX3 a).2.1 ≠ (TX3 b).2.1 := by decide +kernel
theorem tyX3_ok : ∀ k, k < 15 → parseFieldDescriptor (TX3 k).2.2.1 = some (tyX3 k) := by decide +kernel
abbrev cX3_init : ByteArray := prog_5_method_1_code
def yX3_init : MethodName := ⟨RX3, "<init>", "()V"⟩
abbrev cX3_become : ByteArray := prog_5_method_2_code
def yX3_become : MethodName := ⟨RX3, "become", "(LExcuseTariffs$School;)V"⟩
abbrev cX3_hasExcuse : ByteArray := prog_5_method_3_code
def yX3_hasExcuse : MethodName := ⟨RX3, "hasExcuse", "(I)Z"⟩
abbrev cX3_addExcuse : ByteArray := prog_5_method_4_code
def yX3_addExcuse : MethodName := ⟨RX3, "addExcuse", "(II)I"⟩
abbrev cX3_usesOf : ByteArray := prog_5_method_5_code
def yX3_usesOf : MethodName := ⟨RX3, "usesOf", "(II)I"⟩
abbrev cX3_usesByPupil : ByteArray := prog_5_method_6_code
def yX3_usesByPupil : MethodName := ⟨RX3, "usesByPupil", "(I)I"⟩
abbrev cX3_usesByClass : ByteArray := prog_5_method_7_code
def yX3_usesByClass : MethodName := ⟨RX3, "usesByClass", "(II)I"⟩
abbrev cX3_usesBySchool : ByteArray := prog_5_method_8_code
def yX3_usesBySchool : MethodName := ⟨RX3, "usesBySchool", "(I)I"⟩
abbrev cX3_usersOf : ByteArray := prog_5_method_9_code
def yX3_usersOf : MethodName := ⟨RX3, "usersOf", "(I)I"⟩
abbrev cX3_noveltyFor : ByteArray := prog_5_method_10_code
def yX3_noveltyFor : MethodName := ⟨RX3, "noveltyFor", "(II)I"⟩
abbrev cX3_wornOutExcuses : ByteArray := prog_5_method_11_code
def yX3_wornOutExcuses : MethodName := ⟨RX3, "wornOutExcuses", "()I"⟩
abbrev cX3_isWornOut : ByteArray := prog_5_method_12_code
def yX3_isWornOut : MethodName := ⟨RX3, "isWornOut", "(I)Z"⟩
abbrev cX3_weightOf : ByteArray := prog_5_method_13_code
def yX3_weightOf : MethodName := ⟨RX3, "weightOf", "(IIII)I"⟩
abbrev cX3_standingOf : ByteArray := prog_5_method_14_code
def yX3_standingOf : MethodName := ⟨RX3, "standingOf", "(II)I"⟩
abbrev cX3_reasonAgainst : ByteArray := prog_5_method_15_code
def yX3_reasonAgainst : MethodName := ⟨RX3, "reasonAgainst", "(IIII)I"⟩
abbrev cX3_takeOffer : ByteArray := prog_5_method_16_code
def yX3_takeOffer : MethodName := ⟨RX3, "takeOffer", "(IIII)I"⟩
abbrev cX3_stamp : ByteArray := prog_5_method_17_code
def yX3_stamp : MethodName := ⟨RX3, "stamp", "(IIII)V"⟩
abbrev cX3_refuse : ByteArray := prog_5_method_18_code
def yX3_refuse : MethodName := ⟨RX3, "refuse", "(IIII)V"⟩
abbrev cX3_takeCredit : ByteArray := prog_5_method_19_code
def yX3_takeCredit : MethodName := ⟨RX3, "takeCredit", "(II)V"⟩
abbrev cX3_angerMasterOf : ByteArray := prog_5_method_20_code
def yX3_angerMasterOf : MethodName := ⟨RX3, "angerMasterOf", "(I)V"⟩
abbrev cX3_beginNextTerm : ByteArray := prog_5_method_21_code
def yX3_beginNextTerm : MethodName := ⟨RX3, "beginNextTerm", "()V"⟩
def RX4 : String := "ExcuseTariffs"
def TX4 : u_T := fun k => match k with
  | 0 => ("ExcuseTariffs", "school", "LExcuseTariffs$School;", true)
  | 1 => ("ExcuseTariffs", "history", "LExcuseTariffs$History;", true)
  | 2 => ("ExcuseTariffs", "slots", "[LExcuseTariffs$School;", true)
  | 3 => ("ExcuseTariffs", "saved", "[Z", true)
  | 4 => ("ExcuseTariffs", "pad", "LExcuseTariffs$Pad;", true)
  | _ => ("ExcuseTariffs", "reader", "LExcuseTariffs$Reader;", true)
def tyX4 : Nat → FieldType := fun k => match k with
  | 0 => .object "ExcuseTariffs$School"
  | 1 => .object "ExcuseTariffs$History"
  | 2 => .array (.object "ExcuseTariffs$School")
  | 3 => .array .boolean
  | 4 => .object "ExcuseTariffs$Pad"
  | _ => .object "ExcuseTariffs$Reader"
abbrev wsX40 : List Cond := u_ws RX4 TX4 6
theorem nmX4 : ∀ a, a < 6 → ∀ b, b < 6 → a ≠ b → (TX4 a).2.1 ≠ (TX4 b).2.1 := by decide +kernel
theorem tyX4_ok : ∀ k, k < 6 → parseFieldDescriptor (TX4 k).2.2.1 = some (tyX4 k) := by decide +kernel
abbrev cX4_init : ByteArray := prog_1_method_1_code
def yX4_init : MethodName := ⟨RX4, "<init>", "()V"⟩
abbrev cX4_set : ByteArray := prog_1_method_2_code
def yX4_set : MethodName := ⟨RX4, "set", "(II)I"⟩
abbrev cX4_add : ByteArray := prog_1_method_3_code
def yX4_add : MethodName := ⟨RX4, "add", "(II)I"⟩
abbrev cX4_worth : ByteArray := prog_1_method_4_code
def yX4_worth : MethodName := ⟨RX4, "worth", "(II)I"⟩
abbrev cX4_offer : ByteArray := prog_1_method_5_code
def yX4_offer : MethodName := ⟨RX4, "offer", "(IIII)I"⟩
abbrev cX4_pay : ByteArray := prog_1_method_6_code
def yX4_pay : MethodName := ⟨RX4, "pay", "(II)I"⟩
abbrev cX4_endTerm : ByteArray := prog_1_method_7_code
def yX4_endTerm : MethodName := ⟨RX4, "endTerm", "()I"⟩
abbrev cX4_read : ByteArray := prog_1_method_8_code
def yX4_read : MethodName := ⟨RX4, "read", "()I"⟩
abbrev cX4_excuse : ByteArray := prog_1_method_9_code
def yX4_excuse : MethodName := ⟨RX4, "excuse", "(II)I"⟩
abbrev cX4_pupil : ByteArray := prog_1_method_10_code
def yX4_pupil : MethodName := ⟨RX4, "pupil", "(II)I"⟩
abbrev cX4_novelty : ByteArray := prog_1_method_11_code
def yX4_novelty : MethodName := ⟨RX4, "novelty", "(II)I"⟩
abbrev cX4_why : ByteArray := prog_1_method_12_code
def yX4_why : MethodName := ⟨RX4, "why", "(IIII)I"⟩
abbrev cX4_weight : ByteArray := prog_1_method_13_code
def yX4_weight : MethodName := ⟨RX4, "weight", "(IIII)I"⟩
abbrev cX4_count : ByteArray := prog_1_method_14_code
def yX4_count : MethodName := ⟨RX4, "count", "(I)I"⟩
abbrev cX4_bestExcuse : ByteArray := prog_1_method_15_code
def yX4_bestExcuse : MethodName := ⟨RX4, "bestExcuse", "(II)I"⟩
abbrev cX4_bestWitness : ByteArray := prog_1_method_16_code
def yX4_bestWitness : MethodName := ⟨RX4, "bestWitness", "(III)I"⟩
abbrev cX4_mostMinutes : ByteArray := prog_1_method_17_code
def yX4_mostMinutes : MethodName := ⟨RX4, "mostMinutes", "(II)I"⟩
abbrev cX4_wipe : ByteArray := prog_1_method_19_code
def yX4_wipe : MethodName := ⟨RX4, "wipe", "()I"⟩
abbrev cX4_fault : ByteArray := prog_1_method_20_code
def yX4_fault : MethodName := ⟨RX4, "fault", "()I"⟩
abbrev cX4_undo : ByteArray := prog_1_method_21_code
def yX4_undo : MethodName := ⟨RX4, "undo", "()I"⟩
abbrev cX4_save : ByteArray := prog_1_method_22_code
def yX4_save : MethodName := ⟨RX4, "save", "(I)I"⟩
abbrev cX4_restore : ByteArray := prog_1_method_23_code
def yX4_restore : MethodName := ⟨RX4, "restore", "(I)I"⟩
abbrev cX4_offerError : ByteArray := prog_1_method_24_code
def yX4_offerError : MethodName := ⟨RX4, "offerError", "(IIII)I"⟩
abbrev cX4_stampsForWhatWasRead : ByteArray := prog_1_method_25_code
def yX4_stampsForWhatWasRead : MethodName := ⟨RX4, "stampsForWhatWasRead", "()I"⟩
abbrev cX4_isPupil : ByteArray := prog_1_method_28_code
def yX4_isPupil : MethodName := ⟨RX4, "isPupil", "(I)Z"⟩
abbrev cX4_isWithin : ByteArray := prog_1_method_29_code
def yX4_isWithin : MethodName := ⟨RX4, "isWithin", "(III)Z"⟩
abbrev cX4_classOf : ByteArray := prog_1_method_30_code
def yX4_classOf : MethodName := ⟨RX4, "classOf", "(I)I"⟩
abbrev cX4_sum : ByteArray := prog_1_method_31_code
def yX4_sum : MethodName := ⟨RX4, "sum", "([I)I"⟩
abbrev cX4_copy : ByteArray := prog_1_method_32_code
def yX4_copy : MethodName := ⟨RX4, "copy", "([I[I)V"⟩
def RX5 : String := "ExcuseTariffsModel"
def TX5 : u_T := fun k => match k with
  | _ => ("", "", "", false)
def tyX5 : Nat → FieldType := fun k => match k with
  | _ => .int
abbrev wsX50 : List Cond := u_ws RX5 TX5 0
theorem nmX5 : ∀ a, a < 0 → ∀ b, b < 0 → a ≠ b → (TX5 a).2.1 ≠ (TX5 b).2.1 := by decide +kernel
theorem tyX5_ok : ∀ k, k < 0 → parseFieldDescriptor (TX5 k).2.2.1 = some (tyX5 k) := by decide +kernel
def RJ9 : String := "java/lang/Math"
def TJ9 : u_T := fun k => match k with
  | _ => ("", "", "", false)
def tyJ9 : Nat → FieldType := fun k => match k with
  | _ => .int
abbrev wsJ90 : List Cond := u_ws RJ9 TJ9 0
theorem nmJ9 : ∀ a, a < 0 → ∀ b, b < 0 → a ≠ b → (TJ9 a).2.1 ≠ (TJ9 b).2.1 := by decide +kernel
theorem tyJ9_ok : ∀ k, k < 0 → parseFieldDescriptor (TJ9 k).2.2.1 = some (tyJ9 k) := by decide +kernel
abbrev cJ9_max_7cf53 : ByteArray := prog_8_method_65_code
def yJ9_max_7cf53 : MethodName := ⟨RJ9, "max", "(II)I"⟩
abbrev cJ9_min_7cf53 : ByteArray := prog_8_method_69_code
def yJ9_min_7cf53 : MethodName := ⟨RJ9, "min", "(II)I"⟩
def RJ10 : String := "java/lang/System"
def TJ10 : u_T := fun k => match k with
  | _ => ("", "", "", false)
def tyJ10 : Nat → FieldType := fun k => match k with
  | _ => .int
abbrev wsJ100 : List Cond := u_ws RJ10 TJ10 0
theorem nmJ10 : ∀ a, a < 0 → ∀ b, b < 0 → a ≠ b → (TJ10 a).2.1 ≠ (TJ10 b).2.1 := by decide +kernel
theorem tyJ10_ok : ∀ k, k < 0 → parseFieldDescriptor (TJ10 k).2.2.1 = some (tyJ10 k) := by decide +kernel
def RL : String := "ExcuseTariffsLaw"
abbrev cL_cell : ByteArray := method_2_code
def yL_cell : MethodName := ⟨RL, "cell", "([II)I"⟩
abbrev cL_seen : ByteArray := method_3_code
def yL_seen : MethodName := ⟨RL, "seen", "(LExcuseTariffs;)J"⟩
abbrev cL_size : ByteArray := method_4_code
def yL_size : MethodName := ⟨RL, "size", "(I)I"⟩
abbrev cL_arePupils : ByteArray := method_5_code
def yL_arePupils : MethodName := ⟨RL, "arePupils", "(LExcuseTariffs;)Z"⟩
abbrev cL_refusesAny : ByteArray := method_6_code
def yL_refusesAny : MethodName := ⟨RL, "refusesAny", "(LExcuseTariffs;I)Z"⟩
abbrev cL_refuses : ByteArray := method_7_code
def yL_refuses : MethodName := ⟨RL, "refuses", "(LExcuseTariffs;I)Z"⟩
abbrev cL_act : ByteArray := method_8_code
def yL_act : MethodName := ⟨RL, "act", "(LExcuseTariffs;I)I"⟩
abbrev cL_law : ByteArray := code
def yL_law : MethodName := ⟨RL, "law", "([I)Z"⟩
def wsX4_copy : List Cond := .code yX4_copy cX4_copy 2 none :: ([.methodLink RX4 217 Lib.Math.min.name, .static Lib.Math.min.name, .initialized "java/lang/Math", .code Lib.Math.min.name Lib.Math.min.code 2 (some .int), .methodLink RX4 222 arraycopyName, .native arraycopyName, .static arraycopyName, .initialized "java/lang/System"])
def wsX3_init_r1 : List Cond := [Cond.methodLink RX3 3 objectInit, Cond.instanceMethod objectInit, Cond.code objectInit ⟨#[0xb1]⟩ 1 none, Cond.arrayClass .int, Cond.fieldLink RX3 13 "ExcuseTariffs$School" "settings" "[I", Cond.fieldLink RX3 18 "ExcuseTariffs$School" "excuses" "I", Cond.fieldLink RX3 22 "ExcuseTariffs$School" "kinds" "[I", Cond.fieldLink RX3 25 "ExcuseTariffs$School" "worths" "[I", Cond.fieldLink RX3 28 "ExcuseTariffs$School" "usesInAllTerms" "[I", Cond.fieldLink RX3 31 "ExcuseTariffs$School" "uses" "[I", Cond.fieldLink RX3 34 "ExcuseTariffs$School" "credits" "[I", Cond.fieldLink RX3 37 "ExcuseTariffs$School" "fines" "[I", Cond.fieldLink RX3 40 "ExcuseTariffs$School" "paid" "[I", Cond.fieldLink RX3 43 "ExcuseTariffs$School" "stamps" "[I", Cond.fieldLink RX3 46 "ExcuseTariffs$School" "refusals" "[I", Cond.fieldLink RX3 49 "ExcuseTariffs$School" "latestKinds" "[I", Cond.fieldLink RX3 52 "ExcuseTariffs$School" "grudges" "[I", Cond.fieldLink RX3 55 "ExcuseTariffs$School" "refusedFor" "[I", Cond.fieldLink RX3 58 "ExcuseTariffs$School" "termsEnded" "I", Cond.static yX4_copy, Cond.initialized RX4, Cond.code yX4_copy cX4_copy 2 none, Cond.methodLink RX4 217 Lib.Math.min.name, Cond.static Lib.Math.min.name]
def wsX3_init_r2 : List Cond := [Cond.initialized "java/lang/Math", Cond.code Lib.Math.min.name Lib.Math.min.code 2 (some .int), Cond.methodLink RX4 222 arraycopyName, Cond.native arraycopyName, Cond.static arraycopyName, Cond.initialized "java/lang/System"]
def wsX3_init : List Cond := .code yX3_init cX3_init 2 none :: ((wsX3_init_r1 ++ wsX3_init_r2) ++ wsX30)
def wsX0_init_r1 : List Cond := [Cond.methodLink RX0 3 objectInit, Cond.instanceMethod objectInit, Cond.code objectInit ⟨#[0xb1]⟩ 1 none, Cond.classLink RX0 9 RX3, Cond.fieldLink RX0 11 "ExcuseTariffs$History" "states" "[LExcuseTariffs$School;", Cond.fieldLink RX0 17 "ExcuseTariffs$History" "next" "I", Cond.fieldLink RX0 21 "ExcuseTariffs$History" "kept" "I", Cond.instantiable RX3 15, Cond.initialized RX3, Cond.methodLink RX0 24 yX3_init, Cond.instanceMethod yX3_init, Cond.code yX3_init cX3_init 2 none, Cond.methodLink RX3 3 objectInit, Cond.arrayClass .int, Cond.fieldLink RX3 13 "ExcuseTariffs$School" "settings" "[I", Cond.fieldLink RX3 18 "ExcuseTariffs$School" "excuses" "I", Cond.fieldLink RX3 22 "ExcuseTariffs$School" "kinds" "[I", Cond.fieldLink RX3 25 "ExcuseTariffs$School" "worths" "[I", Cond.fieldLink RX3 28 "ExcuseTariffs$School" "usesInAllTerms" "[I", Cond.fieldLink RX3 31 "ExcuseTariffs$School" "uses" "[I", Cond.fieldLink RX3 34 "ExcuseTariffs$School" "credits" "[I", Cond.fieldLink RX3 37 "ExcuseTariffs$School" "fines" "[I", Cond.fieldLink RX3 40 "ExcuseTariffs$School" "paid" "[I", Cond.fieldLink RX3 43 "ExcuseTariffs$School" "stamps" "[I"]
def wsX0_init_r2 : List Cond := [Cond.fieldLink RX3 46 "ExcuseTariffs$School" "refusals" "[I", Cond.fieldLink RX3 49 "ExcuseTariffs$School" "latestKinds" "[I", Cond.fieldLink RX3 52 "ExcuseTariffs$School" "grudges" "[I", Cond.fieldLink RX3 55 "ExcuseTariffs$School" "refusedFor" "[I", Cond.fieldLink RX3 58 "ExcuseTariffs$School" "termsEnded" "I", Cond.static yX4_copy, Cond.initialized RX4, Cond.code yX4_copy cX4_copy 2 none, Cond.methodLink RX4 217 Lib.Math.min.name, Cond.static Lib.Math.min.name, Cond.initialized "java/lang/Math", Cond.code Lib.Math.min.name Lib.Math.min.code 2 (some .int), Cond.methodLink RX4 222 arraycopyName, Cond.native arraycopyName, Cond.static arraycopyName, Cond.initialized "java/lang/System"]
def wsX0_init : List Cond := .code yX0_init cX0_init 2 none :: ((wsX0_init_r1 ++ wsX0_init_r2) ++ wsX00 ++ wsX30)
def wsX3_become_r1 : List Cond := [Cond.fieldLink RX3 13 "ExcuseTariffs$School" "settings" "[I", Cond.fieldLink RX3 18 "ExcuseTariffs$School" "excuses" "I", Cond.fieldLink RX3 22 "ExcuseTariffs$School" "kinds" "[I", Cond.fieldLink RX3 25 "ExcuseTariffs$School" "worths" "[I", Cond.fieldLink RX3 28 "ExcuseTariffs$School" "usesInAllTerms" "[I", Cond.fieldLink RX3 31 "ExcuseTariffs$School" "uses" "[I", Cond.fieldLink RX3 34 "ExcuseTariffs$School" "credits" "[I", Cond.fieldLink RX3 37 "ExcuseTariffs$School" "fines" "[I", Cond.fieldLink RX3 40 "ExcuseTariffs$School" "paid" "[I", Cond.fieldLink RX3 43 "ExcuseTariffs$School" "stamps" "[I", Cond.fieldLink RX3 46 "ExcuseTariffs$School" "refusals" "[I", Cond.fieldLink RX3 49 "ExcuseTariffs$School" "latestKinds" "[I", Cond.fieldLink RX3 52 "ExcuseTariffs$School" "grudges" "[I", Cond.fieldLink RX3 55 "ExcuseTariffs$School" "refusedFor" "[I", Cond.fieldLink RX3 58 "ExcuseTariffs$School" "termsEnded" "I", Cond.static yX4_copy, Cond.initialized RX4, Cond.code yX4_copy cX4_copy 2 none, Cond.methodLink RX4 217 Lib.Math.min.name, Cond.static Lib.Math.min.name, Cond.initialized "java/lang/Math", Cond.code Lib.Math.min.name Lib.Math.min.code 2 (some .int), Cond.methodLink RX4 222 arraycopyName, Cond.native arraycopyName]
def wsX3_become_r2 : List Cond := [Cond.static arraycopyName, Cond.initialized "java/lang/System"]
def wsX3_become : List Cond := .code yX3_become cX3_become 2 none :: ((wsX3_become_r1 ++ wsX3_become_r2) ++ wsX30)
def wsX0_keep_r1 : List Cond := [Cond.fieldLink RX0 11 "ExcuseTariffs$History" "states" "[LExcuseTariffs$School;", Cond.fieldLink RX0 17 "ExcuseTariffs$History" "next" "I", Cond.fieldLink RX0 21 "ExcuseTariffs$History" "kept" "I", Cond.methodLink RX0 29 Lib.Math.min.name, Cond.static Lib.Math.min.name, Cond.initialized "java/lang/Math", Cond.code Lib.Math.min.name Lib.Math.min.code 2 (some .int), Cond.methodLink RX0 25 yX3_become, Cond.instanceMethod yX3_become, Cond.selects RX3 yX3_become yX3_become, Cond.initialized RX3, Cond.code yX3_become cX3_become 2 none, Cond.fieldLink RX3 13 "ExcuseTariffs$School" "settings" "[I", Cond.fieldLink RX3 18 "ExcuseTariffs$School" "excuses" "I", Cond.fieldLink RX3 22 "ExcuseTariffs$School" "kinds" "[I", Cond.fieldLink RX3 25 "ExcuseTariffs$School" "worths" "[I", Cond.fieldLink RX3 28 "ExcuseTariffs$School" "usesInAllTerms" "[I", Cond.fieldLink RX3 31 "ExcuseTariffs$School" "uses" "[I", Cond.fieldLink RX3 34 "ExcuseTariffs$School" "credits" "[I", Cond.fieldLink RX3 37 "ExcuseTariffs$School" "fines" "[I", Cond.fieldLink RX3 40 "ExcuseTariffs$School" "paid" "[I", Cond.fieldLink RX3 43 "ExcuseTariffs$School" "stamps" "[I", Cond.fieldLink RX3 46 "ExcuseTariffs$School" "refusals" "[I", Cond.fieldLink RX3 49 "ExcuseTariffs$School" "latestKinds" "[I"]
def wsX0_keep_r2 : List Cond := [Cond.fieldLink RX3 52 "ExcuseTariffs$School" "grudges" "[I", Cond.fieldLink RX3 55 "ExcuseTariffs$School" "refusedFor" "[I", Cond.fieldLink RX3 58 "ExcuseTariffs$School" "termsEnded" "I", Cond.static yX4_copy, Cond.initialized RX4, Cond.code yX4_copy cX4_copy 2 none, Cond.methodLink RX4 217 Lib.Math.min.name, Cond.methodLink RX4 222 arraycopyName, Cond.native arraycopyName, Cond.static arraycopyName, Cond.initialized "java/lang/System"]
def wsX0_keep : List Cond := .code yX0_keep cX0_keep 2 none :: ((wsX0_keep_r1 ++ wsX0_keep_r2) ++ wsX00 ++ wsX30)
def wsX0_takeBack_r1 : List Cond := [Cond.fieldLink RX0 17 "ExcuseTariffs$History" "next" "I", Cond.fieldLink RX0 21 "ExcuseTariffs$History" "kept" "I", Cond.fieldLink RX0 11 "ExcuseTariffs$History" "states" "[LExcuseTariffs$School;", Cond.methodLink RX0 25 yX3_become, Cond.instanceMethod yX3_become, Cond.selects RX3 yX3_become yX3_become, Cond.initialized RX3, Cond.code yX3_become cX3_become 2 none, Cond.fieldLink RX3 13 "ExcuseTariffs$School" "settings" "[I", Cond.fieldLink RX3 18 "ExcuseTariffs$School" "excuses" "I", Cond.fieldLink RX3 22 "ExcuseTariffs$School" "kinds" "[I", Cond.fieldLink RX3 25 "ExcuseTariffs$School" "worths" "[I", Cond.fieldLink RX3 28 "ExcuseTariffs$School" "usesInAllTerms" "[I", Cond.fieldLink RX3 31 "ExcuseTariffs$School" "uses" "[I", Cond.fieldLink RX3 34 "ExcuseTariffs$School" "credits" "[I", Cond.fieldLink RX3 37 "ExcuseTariffs$School" "fines" "[I", Cond.fieldLink RX3 40 "ExcuseTariffs$School" "paid" "[I", Cond.fieldLink RX3 43 "ExcuseTariffs$School" "stamps" "[I", Cond.fieldLink RX3 46 "ExcuseTariffs$School" "refusals" "[I", Cond.fieldLink RX3 49 "ExcuseTariffs$School" "latestKinds" "[I", Cond.fieldLink RX3 52 "ExcuseTariffs$School" "grudges" "[I", Cond.fieldLink RX3 55 "ExcuseTariffs$School" "refusedFor" "[I", Cond.fieldLink RX3 58 "ExcuseTariffs$School" "termsEnded" "I", Cond.static yX4_copy]
def wsX0_takeBack_r2 : List Cond := [Cond.initialized RX4, Cond.code yX4_copy cX4_copy 2 none, Cond.methodLink RX4 217 Lib.Math.min.name, Cond.static Lib.Math.min.name, Cond.initialized "java/lang/Math", Cond.code Lib.Math.min.name Lib.Math.min.code 2 (some .int), Cond.methodLink RX4 222 arraycopyName, Cond.native arraycopyName, Cond.static arraycopyName, Cond.initialized "java/lang/System"]
def wsX0_takeBack : List Cond := .code yX0_takeBack cX0_takeBack 2 none :: ((wsX0_takeBack_r1 ++ wsX0_takeBack_r2) ++ wsX00 ++ wsX30)
def wsX1_init : List Cond := .code yX1_init cX1_init 1 none :: ([.methodLink RX1 3 objectInit, .instanceMethod objectInit, .code objectInit ⟨#[0xb1]⟩ 1 none, .arrayClass .char, .fieldLink RX1 9 "ExcuseTariffs$Pad" "characters" "[C", .fieldLink RX1 15 "ExcuseTariffs$Pad" "length" "I"] ++ wsX10)
def wsX2_init : List Cond := .code yX2_init cX2_init 1 none :: ([.methodLink RX2 3 objectInit, .instanceMethod objectInit, .code objectInit ⟨#[0xb1]⟩ 1 none, .fieldLink RX2 11 "ExcuseTariffs$Reader" "place" "I", .fieldLink RX2 15 "ExcuseTariffs$Reader" "pupil" "I", .fieldLink RX2 18 "ExcuseTariffs$Reader" "excuse" "I", .fieldLink RX2 21 "ExcuseTariffs$Reader" "minutes" "I", .fieldLink RX2 24 "ExcuseTariffs$Reader" "witness" "I"] ++ wsX20)
def wsX2_begin : List Cond := .code yX2_begin cX2_begin 1 none :: ([.fieldLink RX2 11 "ExcuseTariffs$Reader" "place" "I", .fieldLink RX2 24 "ExcuseTariffs$Reader" "witness" "I"] ++ wsX20)
def wsX4_isWithin : List Cond := .code yX4_isWithin cX4_isWithin 3 (some .boolean) :: ([])
def wsX2_isDigit : List Cond := .code yX2_isDigit cX2_isDigit 1 (some .boolean) :: ([.static yX4_isWithin, .initialized RX4, .code yX4_isWithin cX4_isWithin 3 (some .boolean)])
def wsX2_goesOn : List Cond := .code yX2_goesOn cX2_goesOn 3 (some .boolean) :: ([.fieldLink RX2 11 "ExcuseTariffs$Reader" "place" "I"] ++ wsX20)
def wsX2_takesPupil : List Cond := .code yX2_takesPupil cX2_takesPupil 2 (some .boolean) :: ([.fieldLink RX2 15 "ExcuseTariffs$Reader" "pupil" "I", .methodLink RX2 51 yX2_isDigit, .static yX2_isDigit, .initialized RX2, .code yX2_isDigit cX2_isDigit 1 (some .boolean), .static yX4_isWithin, .initialized RX4, .code yX4_isWithin cX4_isWithin 3 (some .boolean), .methodLink RX2 34 yX2_goesOn, .instanceMethod yX2_goesOn, .selects RX2 yX2_goesOn yX2_goesOn, .code yX2_goesOn cX2_goesOn 3 (some .boolean), .fieldLink RX2 11 "ExcuseTariffs$Reader" "place" "I"] ++ wsX20)
def wsX2_takesExcuse : List Cond := .code yX2_takesExcuse cX2_takesExcuse 3 (some .boolean) :: ([.fieldLink RX2 18 "ExcuseTariffs$Reader" "excuse" "I", .static yX4_isWithin, .initialized RX4, .code yX4_isWithin cX4_isWithin 3 (some .boolean), .methodLink RX2 34 yX2_goesOn, .instanceMethod yX2_goesOn, .selects RX2 yX2_goesOn yX2_goesOn, .initialized RX2, .code yX2_goesOn cX2_goesOn 3 (some .boolean), .fieldLink RX2 11 "ExcuseTariffs$Reader" "place" "I"] ++ wsX20)
def wsX2_takesMinutes : List Cond := .code yX2_takesMinutes cX2_takesMinutes 4 (some .boolean) :: ([.fieldLink RX2 21 "ExcuseTariffs$Reader" "minutes" "I", .methodLink RX2 51 yX2_isDigit, .static yX2_isDigit, .initialized RX2, .code yX2_isDigit cX2_isDigit 1 (some .boolean), .static yX4_isWithin, .initialized RX4, .code yX4_isWithin cX4_isWithin 3 (some .boolean), .methodLink RX2 34 yX2_goesOn, .instanceMethod yX2_goesOn, .selects RX2 yX2_goesOn yX2_goesOn, .code yX2_goesOn cX2_goesOn 3 (some .boolean), .fieldLink RX2 11 "ExcuseTariffs$Reader" "place" "I"] ++ wsX20)
def wsX2_takesComma : List Cond := .code yX2_takesComma cX2_takesComma 2 (some .boolean) :: ([.fieldLink RX2 24 "ExcuseTariffs$Reader" "witness" "I", .methodLink RX2 34 yX2_goesOn, .instanceMethod yX2_goesOn, .selects RX2 yX2_goesOn yX2_goesOn, .initialized RX2, .code yX2_goesOn cX2_goesOn 3 (some .boolean), .fieldLink RX2 11 "ExcuseTariffs$Reader" "place" "I"] ++ wsX20)
def wsX2_takesAfterMinutes : List Cond := .code yX2_takesAfterMinutes cX2_takesAfterMinutes 2 (some .boolean) :: ([.methodLink RX2 34 yX2_goesOn, .instanceMethod yX2_goesOn, .selects RX2 yX2_goesOn yX2_goesOn, .initialized RX2, .code yX2_goesOn cX2_goesOn 3 (some .boolean), .fieldLink RX2 11 "ExcuseTariffs$Reader" "place" "I", .methodLink RX2 48 yX2_takesComma, .instanceMethod yX2_takesComma, .selects RX2 yX2_takesComma yX2_takesComma, .code yX2_takesComma cX2_takesComma 2 (some .boolean), .fieldLink RX2 24 "ExcuseTariffs$Reader" "witness" "I"] ++ wsX20)
def wsX2_takesWitness : List Cond := .code yX2_takesWitness cX2_takesWitness 3 (some .boolean) :: ([.fieldLink RX2 15 "ExcuseTariffs$Reader" "pupil" "I", .fieldLink RX2 24 "ExcuseTariffs$Reader" "witness" "I", .methodLink RX2 51 yX2_isDigit, .static yX2_isDigit, .initialized RX2, .code yX2_isDigit cX2_isDigit 1 (some .boolean), .static yX4_isWithin, .initialized RX4, .code yX4_isWithin cX4_isWithin 3 (some .boolean), .methodLink RX2 34 yX2_goesOn, .instanceMethod yX2_goesOn, .selects RX2 yX2_goesOn yX2_goesOn, .code yX2_goesOn cX2_goesOn 3 (some .boolean), .fieldLink RX2 11 "ExcuseTariffs$Reader" "place" "I"] ++ wsX20)
def wsX2_takes_r1 : List Cond := [Cond.fieldLink RX2 11 "ExcuseTariffs$Reader" "place" "I", Cond.fieldLink RX2 21 "ExcuseTariffs$Reader" "minutes" "I", Cond.methodLink RX2 27 yX2_takesPupil, Cond.instanceMethod yX2_takesPupil, Cond.selects RX2 yX2_takesPupil yX2_takesPupil, Cond.initialized RX2, Cond.code yX2_takesPupil cX2_takesPupil 2 (some .boolean), Cond.fieldLink RX2 15 "ExcuseTariffs$Reader" "pupil" "I", Cond.methodLink RX2 51 yX2_isDigit, Cond.static yX2_isDigit, Cond.code yX2_isDigit cX2_isDigit 1 (some .boolean), Cond.static yX4_isWithin, Cond.initialized RX4, Cond.code yX4_isWithin cX4_isWithin 3 (some .boolean), Cond.methodLink RX2 34 yX2_goesOn, Cond.instanceMethod yX2_goesOn, Cond.selects RX2 yX2_goesOn yX2_goesOn, Cond.code yX2_goesOn cX2_goesOn 3 (some .boolean), Cond.methodLink RX2 31 yX2_takesExcuse, Cond.instanceMethod yX2_takesExcuse, Cond.selects RX2 yX2_takesExcuse yX2_takesExcuse, Cond.code yX2_takesExcuse cX2_takesExcuse 3 (some .boolean), Cond.fieldLink RX2 18 "ExcuseTariffs$Reader" "excuse" "I", Cond.methodLink RX2 38 yX2_takesMinutes]
def wsX2_takes_r2 : List Cond := [Cond.instanceMethod yX2_takesMinutes, Cond.selects RX2 yX2_takesMinutes yX2_takesMinutes, Cond.code yX2_takesMinutes cX2_takesMinutes 4 (some .boolean), Cond.methodLink RX2 42 yX2_takesAfterMinutes, Cond.instanceMethod yX2_takesAfterMinutes, Cond.selects RX2 yX2_takesAfterMinutes yX2_takesAfterMinutes, Cond.code yX2_takesAfterMinutes cX2_takesAfterMinutes 2 (some .boolean), Cond.methodLink RX2 48 yX2_takesComma, Cond.instanceMethod yX2_takesComma, Cond.selects RX2 yX2_takesComma yX2_takesComma, Cond.code yX2_takesComma cX2_takesComma 2 (some .boolean), Cond.fieldLink RX2 24 "ExcuseTariffs$Reader" "witness" "I", Cond.methodLink RX2 45 yX2_takesWitness, Cond.instanceMethod yX2_takesWitness, Cond.selects RX2 yX2_takesWitness yX2_takesWitness, Cond.code yX2_takesWitness cX2_takesWitness 3 (some .boolean)]
def wsX2_takes : List Cond := .code yX2_takes cX2_takes 2 (some .boolean) :: ((wsX2_takes_r1 ++ wsX2_takes_r2) ++ wsX20)
def wsX2_canEnd : List Cond := .code yX2_canEnd cX2_canEnd 1 (some .boolean) :: ([.fieldLink RX2 11 "ExcuseTariffs$Reader" "place" "I"] ++ wsX20)
def wsX3_hasExcuse : List Cond := .code yX3_hasExcuse cX3_hasExcuse 2 (some .boolean) :: ([.fieldLink RX3 18 "ExcuseTariffs$School" "excuses" "I"] ++ wsX30)
def wsX3_addExcuse : List Cond := .code yX3_addExcuse cX3_addExcuse 3 (some .int) :: ([.fieldLink RX3 22 "ExcuseTariffs$School" "kinds" "[I", .fieldLink RX3 18 "ExcuseTariffs$School" "excuses" "I", .fieldLink RX3 25 "ExcuseTariffs$School" "worths" "[I"] ++ wsX30)
def wsX3_usesOf : List Cond := .code yX3_usesOf cX3_usesOf 3 (some .int) :: ([.fieldLink RX3 31 "ExcuseTariffs$School" "uses" "[I"] ++ wsX30)
def wsX3_usesByPupil : List Cond := .code yX3_usesByPupil cX3_usesByPupil 4 (some .int) :: ([.methodLink RX3 65 yX3_usesOf, .instanceMethod yX3_usesOf, .selects RX3 yX3_usesOf yX3_usesOf, .initialized RX3, .code yX3_usesOf cX3_usesOf 3 (some .int), .fieldLink RX3 31 "ExcuseTariffs$School" "uses" "[I"] ++ wsX30)
def wsX3_usesByClass : List Cond := .code yX3_usesByClass cX3_usesByClass 4 (some .int) :: ([.fieldLink RX3 31 "ExcuseTariffs$School" "uses" "[I"] ++ wsX30)
def wsX3_usesBySchool : List Cond := .code yX3_usesBySchool cX3_usesBySchool 4 (some .int) :: ([.fieldLink RX3 31 "ExcuseTariffs$School" "uses" "[I"] ++ wsX30)
def wsX3_usersOf : List Cond := .code yX3_usersOf cX3_usersOf 4 (some .int) :: ([.methodLink RX3 65 yX3_usesOf, .instanceMethod yX3_usesOf, .selects RX3 yX3_usesOf yX3_usesOf, .initialized RX3, .code yX3_usesOf cX3_usesOf 3 (some .int), .fieldLink RX3 31 "ExcuseTariffs$School" "uses" "[I"] ++ wsX30)
def wsX4_classOf : List Cond := .code yX4_classOf cX4_classOf 1 (some .int) :: ([])
def wsX3_noveltyFor : List Cond := .code yX3_noveltyFor cX3_noveltyFor 4 (some .int) :: ([.fieldLink RX3 13 "ExcuseTariffs$School" "settings" "[I", .methodLink RX3 79 Lib.Math.max.name, .static Lib.Math.max.name, .initialized "java/lang/Math", .code Lib.Math.max.name Lib.Math.max.code 2 (some .int), .methodLink RX3 69 yX3_usesBySchool, .instanceMethod yX3_usesBySchool, .selects RX3 yX3_usesBySchool yX3_usesBySchool, .initialized RX3, .code yX3_usesBySchool cX3_usesBySchool 4 (some .int), .fieldLink RX3 31 "ExcuseTariffs$School" "uses" "[I", .static yX4_classOf, .initialized RX4, .code yX4_classOf cX4_classOf 1 (some .int), .methodLink RX3 76 yX3_usesByClass, .instanceMethod yX3_usesByClass, .selects RX3 yX3_usesByClass yX3_usesByClass, .code yX3_usesByClass cX3_usesByClass 4 (some .int)] ++ wsX30)
def wsX3_isWornOut : List Cond := .code yX3_isWornOut cX3_isWornOut 3 (some .boolean) :: ([.methodLink RX3 88 yX3_noveltyFor, .instanceMethod yX3_noveltyFor, .selects RX3 yX3_noveltyFor yX3_noveltyFor, .initialized RX3, .code yX3_noveltyFor cX3_noveltyFor 4 (some .int), .fieldLink RX3 13 "ExcuseTariffs$School" "settings" "[I", .methodLink RX3 79 Lib.Math.max.name, .static Lib.Math.max.name, .initialized "java/lang/Math", .code Lib.Math.max.name Lib.Math.max.code 2 (some .int), .methodLink RX3 69 yX3_usesBySchool, .instanceMethod yX3_usesBySchool, .selects RX3 yX3_usesBySchool yX3_usesBySchool, .code yX3_usesBySchool cX3_usesBySchool 4 (some .int), .fieldLink RX3 31 "ExcuseTariffs$School" "uses" "[I", .static yX4_classOf, .initialized RX4, .code yX4_classOf cX4_classOf 1 (some .int), .methodLink RX3 76 yX3_usesByClass, .instanceMethod yX3_usesByClass, .selects RX3 yX3_usesByClass yX3_usesByClass, .code yX3_usesByClass cX3_usesByClass 4 (some .int)] ++ wsX30)
def wsX3_wornOutExcuses_r1 : List Cond := [Cond.fieldLink RX3 18 "ExcuseTariffs$School" "excuses" "I", Cond.methodLink RX3 84 yX3_isWornOut, Cond.instanceMethod yX3_isWornOut, Cond.selects RX3 yX3_isWornOut yX3_isWornOut, Cond.initialized RX3, Cond.code yX3_isWornOut cX3_isWornOut 3 (some .boolean), Cond.methodLink RX3 88 yX3_noveltyFor, Cond.instanceMethod yX3_noveltyFor, Cond.selects RX3 yX3_noveltyFor yX3_noveltyFor, Cond.code yX3_noveltyFor cX3_noveltyFor 4 (some .int), Cond.fieldLink RX3 13 "ExcuseTariffs$School" "settings" "[I", Cond.methodLink RX3 79 Lib.Math.max.name, Cond.static Lib.Math.max.name, Cond.initialized "java/lang/Math", Cond.code Lib.Math.max.name Lib.Math.max.code 2 (some .int), Cond.methodLink RX3 69 yX3_usesBySchool, Cond.instanceMethod yX3_usesBySchool, Cond.selects RX3 yX3_usesBySchool yX3_usesBySchool, Cond.code yX3_usesBySchool cX3_usesBySchool 4 (some .int), Cond.fieldLink RX3 31 "ExcuseTariffs$School" "uses" "[I", Cond.static yX4_classOf, Cond.initialized RX4, Cond.code yX4_classOf cX4_classOf 1 (some .int), Cond.methodLink RX3 76 yX3_usesByClass]
def wsX3_wornOutExcuses_r2 : List Cond := [Cond.instanceMethod yX3_usesByClass, Cond.selects RX3 yX3_usesByClass yX3_usesByClass, Cond.code yX3_usesByClass cX3_usesByClass 4 (some .int)]
def wsX3_wornOutExcuses : List Cond := .code yX3_wornOutExcuses cX3_wornOutExcuses 3 (some .int) :: ((wsX3_wornOutExcuses_r1 ++ wsX3_wornOutExcuses_r2) ++ wsX30)
def wsX3_standingOf : List Cond := .code yX3_standingOf cX3_standingOf 3 (some .int) :: ([.fieldLink RX3 34 "ExcuseTariffs$School" "credits" "[I", .methodLink RX3 79 Lib.Math.max.name, .static Lib.Math.max.name, .initialized "java/lang/Math", .code Lib.Math.max.name Lib.Math.max.code 2 (some .int), .static yX4_classOf, .initialized RX4, .code yX4_classOf cX4_classOf 1 (some .int)] ++ wsX30)
def wsX3_weightOf_r1 : List Cond := [Cond.fieldLink RX3 25 "ExcuseTariffs$School" "worths" "[I", Cond.fieldLink RX3 13 "ExcuseTariffs$School" "settings" "[I", Cond.fieldLink RX3 52 "ExcuseTariffs$School" "grudges" "[I", Cond.methodLink RX3 88 yX3_noveltyFor, Cond.instanceMethod yX3_noveltyFor, Cond.selects RX3 yX3_noveltyFor yX3_noveltyFor, Cond.initialized RX3, Cond.code yX3_noveltyFor cX3_noveltyFor 4 (some .int), Cond.methodLink RX3 79 Lib.Math.max.name, Cond.static Lib.Math.max.name, Cond.initialized "java/lang/Math", Cond.code Lib.Math.max.name Lib.Math.max.code 2 (some .int), Cond.methodLink RX3 69 yX3_usesBySchool, Cond.instanceMethod yX3_usesBySchool, Cond.selects RX3 yX3_usesBySchool yX3_usesBySchool, Cond.code yX3_usesBySchool cX3_usesBySchool 4 (some .int), Cond.fieldLink RX3 31 "ExcuseTariffs$School" "uses" "[I", Cond.static yX4_classOf, Cond.initialized RX4, Cond.code yX4_classOf cX4_classOf 1 (some .int), Cond.methodLink RX3 76 yX3_usesByClass, Cond.instanceMethod yX3_usesByClass, Cond.selects RX3 yX3_usesByClass yX3_usesByClass, Cond.code yX3_usesByClass cX3_usesByClass 4 (some .int)]
def wsX3_weightOf_r2 : List Cond := [Cond.methodLink RX3 91 yX3_standingOf, Cond.instanceMethod yX3_standingOf, Cond.selects RX3 yX3_standingOf yX3_standingOf, Cond.code yX3_standingOf cX3_standingOf 3 (some .int), Cond.fieldLink RX3 34 "ExcuseTariffs$School" "credits" "[I"]
def wsX3_weightOf : List Cond := .code yX3_weightOf cX3_weightOf 6 (some .int) :: ((wsX3_weightOf_r1 ++ wsX3_weightOf_r2) ++ wsX30)
def wsX3_reasonAgainst_r1 : List Cond := [Cond.fieldLink RX3 13 "ExcuseTariffs$School" "settings" "[I", Cond.fieldLink RX3 49 "ExcuseTariffs$School" "latestKinds" "[I", Cond.fieldLink RX3 22 "ExcuseTariffs$School" "kinds" "[I", Cond.fieldLink RX3 34 "ExcuseTariffs$School" "credits" "[I", Cond.methodLink RX3 65 yX3_usesOf, Cond.instanceMethod yX3_usesOf, Cond.selects RX3 yX3_usesOf yX3_usesOf, Cond.initialized RX3, Cond.code yX3_usesOf cX3_usesOf 3 (some .int), Cond.fieldLink RX3 31 "ExcuseTariffs$School" "uses" "[I", Cond.methodLink RX3 94 yX3_weightOf, Cond.instanceMethod yX3_weightOf, Cond.selects RX3 yX3_weightOf yX3_weightOf, Cond.code yX3_weightOf cX3_weightOf 6 (some .int), Cond.fieldLink RX3 25 "ExcuseTariffs$School" "worths" "[I", Cond.fieldLink RX3 52 "ExcuseTariffs$School" "grudges" "[I", Cond.methodLink RX3 88 yX3_noveltyFor, Cond.instanceMethod yX3_noveltyFor, Cond.selects RX3 yX3_noveltyFor yX3_noveltyFor, Cond.code yX3_noveltyFor cX3_noveltyFor 4 (some .int), Cond.methodLink RX3 79 Lib.Math.max.name, Cond.static Lib.Math.max.name, Cond.initialized "java/lang/Math", Cond.code Lib.Math.max.name Lib.Math.max.code 2 (some .int)]
def wsX3_reasonAgainst_r2 : List Cond := [Cond.methodLink RX3 69 yX3_usesBySchool, Cond.instanceMethod yX3_usesBySchool, Cond.selects RX3 yX3_usesBySchool yX3_usesBySchool, Cond.code yX3_usesBySchool cX3_usesBySchool 4 (some .int), Cond.static yX4_classOf, Cond.initialized RX4, Cond.code yX4_classOf cX4_classOf 1 (some .int), Cond.methodLink RX3 76 yX3_usesByClass, Cond.instanceMethod yX3_usesByClass, Cond.selects RX3 yX3_usesByClass yX3_usesByClass, Cond.code yX3_usesByClass cX3_usesByClass 4 (some .int), Cond.methodLink RX3 91 yX3_standingOf, Cond.instanceMethod yX3_standingOf, Cond.selects RX3 yX3_standingOf yX3_standingOf, Cond.code yX3_standingOf cX3_standingOf 3 (some .int)]
def wsX3_reasonAgainst : List Cond := .code yX3_reasonAgainst cX3_reasonAgainst 5 (some .int) :: ((wsX3_reasonAgainst_r1 ++ wsX3_reasonAgainst_r2) ++ wsX30)
def wsX3_takeCredit : List Cond := .code yX3_takeCredit cX3_takeCredit 3 none :: ([.fieldLink RX3 34 "ExcuseTariffs$School" "credits" "[I", .methodLink RX3 79 Lib.Math.max.name, .static Lib.Math.max.name, .initialized "java/lang/Math", .code Lib.Math.max.name Lib.Math.max.code 2 (some .int)] ++ wsX30)
def wsX3_angerMasterOf : List Cond := .code yX3_angerMasterOf cX3_angerMasterOf 3 none :: ([.fieldLink RX3 52 "ExcuseTariffs$School" "grudges" "[I", .methodLink RX3 116 Lib.Math.min.name, .static Lib.Math.min.name, .initialized "java/lang/Math", .code Lib.Math.min.name Lib.Math.min.code 2 (some .int), .static yX4_classOf, .initialized RX4, .code yX4_classOf cX4_classOf 1 (some .int)] ++ wsX30)
def wsX3_stamp : List Cond := .code yX3_stamp cX3_stamp 5 none :: ([.fieldLink RX3 31 "ExcuseTariffs$School" "uses" "[I", .fieldLink RX3 28 "ExcuseTariffs$School" "usesInAllTerms" "[I", .fieldLink RX3 43 "ExcuseTariffs$School" "stamps" "[I", .methodLink RX3 108 yX3_takeCredit, .instanceMethod yX3_takeCredit, .selects RX3 yX3_takeCredit yX3_takeCredit, .initialized RX3, .code yX3_takeCredit cX3_takeCredit 3 none, .fieldLink RX3 34 "ExcuseTariffs$School" "credits" "[I", .methodLink RX3 79 Lib.Math.max.name, .static Lib.Math.max.name, .initialized "java/lang/Math", .code Lib.Math.max.name Lib.Math.max.code 2 (some .int), .methodLink RX3 112 yX3_angerMasterOf, .instanceMethod yX3_angerMasterOf, .selects RX3 yX3_angerMasterOf yX3_angerMasterOf, .code yX3_angerMasterOf cX3_angerMasterOf 3 none, .fieldLink RX3 52 "ExcuseTariffs$School" "grudges" "[I", .methodLink RX3 116 Lib.Math.min.name, .static Lib.Math.min.name, .code Lib.Math.min.name Lib.Math.min.code 2 (some .int), .static yX4_classOf, .initialized RX4, .code yX4_classOf cX4_classOf 1 (some .int)] ++ wsX30)
def wsX3_refuse_r1 : List Cond := [Cond.fieldLink RX3 37 "ExcuseTariffs$School" "fines" "[I", Cond.fieldLink RX3 13 "ExcuseTariffs$School" "settings" "[I", Cond.fieldLink RX3 46 "ExcuseTariffs$School" "refusals" "[I", Cond.fieldLink RX3 55 "ExcuseTariffs$School" "refusedFor" "[I", Cond.methodLink RX3 112 yX3_angerMasterOf, Cond.instanceMethod yX3_angerMasterOf, Cond.selects RX3 yX3_angerMasterOf yX3_angerMasterOf, Cond.initialized RX3, Cond.code yX3_angerMasterOf cX3_angerMasterOf 3 none, Cond.fieldLink RX3 52 "ExcuseTariffs$School" "grudges" "[I", Cond.methodLink RX3 116 Lib.Math.min.name, Cond.static Lib.Math.min.name, Cond.initialized "java/lang/Math", Cond.code Lib.Math.min.name Lib.Math.min.code 2 (some .int), Cond.static yX4_classOf, Cond.initialized RX4, Cond.code yX4_classOf cX4_classOf 1 (some .int), Cond.methodLink RX3 108 yX3_takeCredit, Cond.instanceMethod yX3_takeCredit, Cond.selects RX3 yX3_takeCredit yX3_takeCredit, Cond.code yX3_takeCredit cX3_takeCredit 3 none, Cond.fieldLink RX3 34 "ExcuseTariffs$School" "credits" "[I", Cond.methodLink RX3 79 Lib.Math.max.name, Cond.static Lib.Math.max.name]
def wsX3_refuse_r2 : List Cond := [Cond.code Lib.Math.max.name Lib.Math.max.code 2 (some .int)]
def wsX3_refuse : List Cond := .code yX3_refuse cX3_refuse 5 none :: ((wsX3_refuse_r1 ++ wsX3_refuse_r2) ++ wsX30)
def wsX3_takeOffer_r1 : List Cond := [Cond.fieldLink RX3 49 "ExcuseTariffs$School" "latestKinds" "[I", Cond.fieldLink RX3 22 "ExcuseTariffs$School" "kinds" "[I", Cond.methodLink RX3 98 yX3_reasonAgainst, Cond.instanceMethod yX3_reasonAgainst, Cond.selects RX3 yX3_reasonAgainst yX3_reasonAgainst, Cond.initialized RX3, Cond.code yX3_reasonAgainst cX3_reasonAgainst 5 (some .int), Cond.fieldLink RX3 13 "ExcuseTariffs$School" "settings" "[I", Cond.fieldLink RX3 34 "ExcuseTariffs$School" "credits" "[I", Cond.methodLink RX3 65 yX3_usesOf, Cond.instanceMethod yX3_usesOf, Cond.selects RX3 yX3_usesOf yX3_usesOf, Cond.code yX3_usesOf cX3_usesOf 3 (some .int), Cond.fieldLink RX3 31 "ExcuseTariffs$School" "uses" "[I", Cond.methodLink RX3 94 yX3_weightOf, Cond.instanceMethod yX3_weightOf, Cond.selects RX3 yX3_weightOf yX3_weightOf, Cond.code yX3_weightOf cX3_weightOf 6 (some .int), Cond.fieldLink RX3 25 "ExcuseTariffs$School" "worths" "[I", Cond.fieldLink RX3 52 "ExcuseTariffs$School" "grudges" "[I", Cond.methodLink RX3 88 yX3_noveltyFor, Cond.instanceMethod yX3_noveltyFor, Cond.selects RX3 yX3_noveltyFor yX3_noveltyFor, Cond.code yX3_noveltyFor cX3_noveltyFor 4 (some .int)]
def wsX3_takeOffer_r2 : List Cond := [Cond.methodLink RX3 79 Lib.Math.max.name, Cond.static Lib.Math.max.name, Cond.initialized "java/lang/Math", Cond.code Lib.Math.max.name Lib.Math.max.code 2 (some .int), Cond.methodLink RX3 69 yX3_usesBySchool, Cond.instanceMethod yX3_usesBySchool, Cond.selects RX3 yX3_usesBySchool yX3_usesBySchool, Cond.code yX3_usesBySchool cX3_usesBySchool 4 (some .int), Cond.static yX4_classOf, Cond.initialized RX4, Cond.code yX4_classOf cX4_classOf 1 (some .int), Cond.methodLink RX3 76 yX3_usesByClass, Cond.instanceMethod yX3_usesByClass, Cond.selects RX3 yX3_usesByClass yX3_usesByClass, Cond.code yX3_usesByClass cX3_usesByClass 4 (some .int), Cond.methodLink RX3 91 yX3_standingOf, Cond.instanceMethod yX3_standingOf, Cond.selects RX3 yX3_standingOf yX3_standingOf, Cond.code yX3_standingOf cX3_standingOf 3 (some .int), Cond.methodLink RX3 101 yX3_stamp, Cond.instanceMethod yX3_stamp, Cond.selects RX3 yX3_stamp yX3_stamp, Cond.code yX3_stamp cX3_stamp 5 none, Cond.fieldLink RX3 28 "ExcuseTariffs$School" "usesInAllTerms" "[I"]
def wsX3_takeOffer_r3 : List Cond := [Cond.fieldLink RX3 43 "ExcuseTariffs$School" "stamps" "[I", Cond.methodLink RX3 108 yX3_takeCredit, Cond.instanceMethod yX3_takeCredit, Cond.selects RX3 yX3_takeCredit yX3_takeCredit, Cond.code yX3_takeCredit cX3_takeCredit 3 none, Cond.methodLink RX3 112 yX3_angerMasterOf, Cond.instanceMethod yX3_angerMasterOf, Cond.selects RX3 yX3_angerMasterOf yX3_angerMasterOf, Cond.code yX3_angerMasterOf cX3_angerMasterOf 3 none, Cond.methodLink RX3 116 Lib.Math.min.name, Cond.static Lib.Math.min.name, Cond.code Lib.Math.min.name Lib.Math.min.code 2 (some .int), Cond.methodLink RX3 105 yX3_refuse, Cond.instanceMethod yX3_refuse, Cond.selects RX3 yX3_refuse yX3_refuse, Cond.code yX3_refuse cX3_refuse 5 none, Cond.fieldLink RX3 37 "ExcuseTariffs$School" "fines" "[I", Cond.fieldLink RX3 46 "ExcuseTariffs$School" "refusals" "[I", Cond.fieldLink RX3 55 "ExcuseTariffs$School" "refusedFor" "[I"]
def wsX3_takeOffer : List Cond := .code yX3_takeOffer cX3_takeOffer 6 (some .int) :: ((wsX3_takeOffer_r1 ++ (wsX3_takeOffer_r2 ++ wsX3_takeOffer_r3)) ++ wsX30)
def wsX3_beginNextTerm : List Cond := .code yX3_beginNextTerm cX3_beginNextTerm 2 none :: ([.fieldLink RX3 31 "ExcuseTariffs$School" "uses" "[I", .fieldLink RX3 49 "ExcuseTariffs$School" "latestKinds" "[I", .fieldLink RX3 34 "ExcuseTariffs$School" "credits" "[I", .methodLink RX3 116 Lib.Math.min.name, .static Lib.Math.min.name, .initialized "java/lang/Math", .code Lib.Math.min.name Lib.Math.min.code 2 (some .int), .fieldLink RX3 52 "ExcuseTariffs$School" "grudges" "[I", .fieldLink RX3 58 "ExcuseTariffs$School" "termsEnded" "I"] ++ wsX30)
def wsX4_init_r1 : List Cond := [Cond.methodLink RX4 1 objectInit, Cond.instanceMethod objectInit, Cond.code objectInit ⟨#[0xb1]⟩ 1 none, Cond.classLink RX4 7 RX3, Cond.instantiable RX3 15, Cond.initialized RX3, Cond.fieldLink RX4 10 "ExcuseTariffs" "school" "LExcuseTariffs$School;", Cond.classLink RX4 16 RX0, Cond.instantiable RX0 3, Cond.initialized RX0, Cond.fieldLink RX4 19 "ExcuseTariffs" "history" "LExcuseTariffs$History;", Cond.fieldLink RX4 23 "ExcuseTariffs" "slots" "[LExcuseTariffs$School;", Cond.arrayClass .boolean, Cond.fieldLink RX4 27 "ExcuseTariffs" "saved" "[Z", Cond.classLink RX4 31 RX1, Cond.instantiable RX1 2, Cond.initialized RX1, Cond.fieldLink RX4 34 "ExcuseTariffs" "pad" "LExcuseTariffs$Pad;", Cond.classLink RX4 38 RX2, Cond.instantiable RX2 5, Cond.initialized RX2, Cond.fieldLink RX4 41 "ExcuseTariffs" "reader" "LExcuseTariffs$Reader;", Cond.methodLink RX4 9 yX3_init, Cond.instanceMethod yX3_init]
def wsX4_init_r2 : List Cond := [Cond.code yX3_init cX3_init 2 none, Cond.methodLink RX3 3 objectInit, Cond.arrayClass .int, Cond.fieldLink RX3 13 "ExcuseTariffs$School" "settings" "[I", Cond.fieldLink RX3 18 "ExcuseTariffs$School" "excuses" "I", Cond.fieldLink RX3 22 "ExcuseTariffs$School" "kinds" "[I", Cond.fieldLink RX3 25 "ExcuseTariffs$School" "worths" "[I", Cond.fieldLink RX3 28 "ExcuseTariffs$School" "usesInAllTerms" "[I", Cond.fieldLink RX3 31 "ExcuseTariffs$School" "uses" "[I", Cond.fieldLink RX3 34 "ExcuseTariffs$School" "credits" "[I", Cond.fieldLink RX3 37 "ExcuseTariffs$School" "fines" "[I", Cond.fieldLink RX3 40 "ExcuseTariffs$School" "paid" "[I", Cond.fieldLink RX3 43 "ExcuseTariffs$School" "stamps" "[I", Cond.fieldLink RX3 46 "ExcuseTariffs$School" "refusals" "[I", Cond.fieldLink RX3 49 "ExcuseTariffs$School" "latestKinds" "[I", Cond.fieldLink RX3 52 "ExcuseTariffs$School" "grudges" "[I", Cond.fieldLink RX3 55 "ExcuseTariffs$School" "refusedFor" "[I", Cond.fieldLink RX3 58 "ExcuseTariffs$School" "termsEnded" "I", Cond.static yX4_copy, Cond.initialized RX4, Cond.code yX4_copy cX4_copy 2 none, Cond.methodLink RX4 217 Lib.Math.min.name, Cond.static Lib.Math.min.name, Cond.initialized "java/lang/Math"]
def wsX4_init_r3 : List Cond := [Cond.code Lib.Math.min.name Lib.Math.min.code 2 (some .int), Cond.methodLink RX4 222 arraycopyName, Cond.native arraycopyName, Cond.static arraycopyName, Cond.initialized "java/lang/System", Cond.methodLink RX4 18 yX0_init, Cond.instanceMethod yX0_init, Cond.code yX0_init cX0_init 2 none, Cond.methodLink RX0 3 objectInit, Cond.classLink RX0 9 RX3, Cond.fieldLink RX0 11 "ExcuseTariffs$History" "states" "[LExcuseTariffs$School;", Cond.fieldLink RX0 17 "ExcuseTariffs$History" "next" "I", Cond.fieldLink RX0 21 "ExcuseTariffs$History" "kept" "I", Cond.methodLink RX0 24 yX3_init, Cond.instanceMethod yX1_init, Cond.code yX1_init cX1_init 1 none, Cond.methodLink RX1 3 objectInit, Cond.arrayClass .char, Cond.fieldLink RX1 9 "ExcuseTariffs$Pad" "characters" "[C", Cond.fieldLink RX1 15 "ExcuseTariffs$Pad" "length" "I", Cond.instanceMethod yX2_init, Cond.code yX2_init cX2_init 1 none, Cond.methodLink RX2 3 objectInit, Cond.fieldLink RX2 11 "ExcuseTariffs$Reader" "place" "I"]
def wsX4_init_r4 : List Cond := [Cond.fieldLink RX2 15 "ExcuseTariffs$Reader" "pupil" "I", Cond.fieldLink RX2 18 "ExcuseTariffs$Reader" "excuse" "I", Cond.fieldLink RX2 21 "ExcuseTariffs$Reader" "minutes" "I", Cond.fieldLink RX2 24 "ExcuseTariffs$Reader" "witness" "I"]
def wsX4_init : List Cond := .code yX4_init cX4_init 2 none :: ((wsX4_init_r1 ++ (wsX4_init_r2 ++ (wsX4_init_r3 ++ wsX4_init_r4))) ++ wsX30 ++ wsX40 ++ wsX00 ++ wsX10 ++ wsX20)
def wsX4_set_r1 : List Cond := [Cond.fieldLink RX4 45 "ExcuseTariffs" "FIRST_SETTINGS" "[I", Cond.fieldLink RX4 53 "ExcuseTariffs" "LEAST_SETTINGS" "[I", Cond.fieldLink RX4 56 "ExcuseTariffs" "MOST_SETTINGS" "[I", Cond.fieldLink RX4 19 "ExcuseTariffs" "history" "LExcuseTariffs$History;", Cond.fieldLink RX4 10 "ExcuseTariffs" "school" "LExcuseTariffs$School;", Cond.fieldLink RX4 63 "ExcuseTariffs$School" "settings" "[I", Cond.methodLink RX4 49 yX4_isWithin, Cond.static yX4_isWithin, Cond.initialized RX4, Cond.code yX4_isWithin cX4_isWithin 3 (some .boolean), Cond.methodLink RX4 59 yX0_keep, Cond.instanceMethod yX0_keep, Cond.selects RX0 yX0_keep yX0_keep, Cond.initialized RX0, Cond.code yX0_keep cX0_keep 2 none, Cond.fieldLink RX0 11 "ExcuseTariffs$History" "states" "[LExcuseTariffs$School;", Cond.fieldLink RX0 17 "ExcuseTariffs$History" "next" "I", Cond.fieldLink RX0 21 "ExcuseTariffs$History" "kept" "I", Cond.methodLink RX0 29 Lib.Math.min.name, Cond.static Lib.Math.min.name, Cond.initialized "java/lang/Math", Cond.code Lib.Math.min.name Lib.Math.min.code 2 (some .int), Cond.methodLink RX0 25 yX3_become, Cond.instanceMethod yX3_become]
def wsX4_set_r2 : List Cond := [Cond.selects RX3 yX3_become yX3_become, Cond.initialized RX3, Cond.code yX3_become cX3_become 2 none, Cond.fieldLink RX3 13 "ExcuseTariffs$School" "settings" "[I", Cond.fieldLink RX3 18 "ExcuseTariffs$School" "excuses" "I", Cond.fieldLink RX3 22 "ExcuseTariffs$School" "kinds" "[I", Cond.fieldLink RX3 25 "ExcuseTariffs$School" "worths" "[I", Cond.fieldLink RX3 28 "ExcuseTariffs$School" "usesInAllTerms" "[I", Cond.fieldLink RX3 31 "ExcuseTariffs$School" "uses" "[I", Cond.fieldLink RX3 34 "ExcuseTariffs$School" "credits" "[I", Cond.fieldLink RX3 37 "ExcuseTariffs$School" "fines" "[I", Cond.fieldLink RX3 40 "ExcuseTariffs$School" "paid" "[I", Cond.fieldLink RX3 43 "ExcuseTariffs$School" "stamps" "[I", Cond.fieldLink RX3 46 "ExcuseTariffs$School" "refusals" "[I", Cond.fieldLink RX3 49 "ExcuseTariffs$School" "latestKinds" "[I", Cond.fieldLink RX3 52 "ExcuseTariffs$School" "grudges" "[I", Cond.fieldLink RX3 55 "ExcuseTariffs$School" "refusedFor" "[I", Cond.fieldLink RX3 58 "ExcuseTariffs$School" "termsEnded" "I", Cond.static yX4_copy, Cond.code yX4_copy cX4_copy 2 none, Cond.methodLink RX4 217 Lib.Math.min.name, Cond.methodLink RX4 222 arraycopyName, Cond.native arraycopyName, Cond.static arraycopyName]
def wsX4_set_r3 : List Cond := [Cond.initialized "java/lang/System"]
def wsX4_set : List Cond := .code yX4_set cX4_set 4 (some .int) :: ((wsX4_set_r1 ++ (wsX4_set_r2 ++ wsX4_set_r3)) ++ wsX40 ++ wsX30 ++ wsX00)
def wsX4_add_r1 : List Cond := [Cond.fieldLink RX4 10 "ExcuseTariffs" "school" "LExcuseTariffs$School;", Cond.fieldLink RX4 66 "ExcuseTariffs$School" "excuses" "I", Cond.fieldLink RX4 19 "ExcuseTariffs" "history" "LExcuseTariffs$History;", Cond.methodLink RX4 49 yX4_isWithin, Cond.static yX4_isWithin, Cond.initialized RX4, Cond.code yX4_isWithin cX4_isWithin 3 (some .boolean), Cond.methodLink RX4 59 yX0_keep, Cond.instanceMethod yX0_keep, Cond.selects RX0 yX0_keep yX0_keep, Cond.initialized RX0, Cond.code yX0_keep cX0_keep 2 none, Cond.fieldLink RX0 11 "ExcuseTariffs$History" "states" "[LExcuseTariffs$School;", Cond.fieldLink RX0 17 "ExcuseTariffs$History" "next" "I", Cond.fieldLink RX0 21 "ExcuseTariffs$History" "kept" "I", Cond.methodLink RX0 29 Lib.Math.min.name, Cond.static Lib.Math.min.name, Cond.initialized "java/lang/Math", Cond.code Lib.Math.min.name Lib.Math.min.code 2 (some .int), Cond.methodLink RX0 25 yX3_become, Cond.instanceMethod yX3_become, Cond.selects RX3 yX3_become yX3_become, Cond.initialized RX3, Cond.code yX3_become cX3_become 2 none]
def wsX4_add_r2 : List Cond := [Cond.fieldLink RX3 13 "ExcuseTariffs$School" "settings" "[I", Cond.fieldLink RX3 18 "ExcuseTariffs$School" "excuses" "I", Cond.fieldLink RX3 22 "ExcuseTariffs$School" "kinds" "[I", Cond.fieldLink RX3 25 "ExcuseTariffs$School" "worths" "[I", Cond.fieldLink RX3 28 "ExcuseTariffs$School" "usesInAllTerms" "[I", Cond.fieldLink RX3 31 "ExcuseTariffs$School" "uses" "[I", Cond.fieldLink RX3 34 "ExcuseTariffs$School" "credits" "[I", Cond.fieldLink RX3 37 "ExcuseTariffs$School" "fines" "[I", Cond.fieldLink RX3 40 "ExcuseTariffs$School" "paid" "[I", Cond.fieldLink RX3 43 "ExcuseTariffs$School" "stamps" "[I", Cond.fieldLink RX3 46 "ExcuseTariffs$School" "refusals" "[I", Cond.fieldLink RX3 49 "ExcuseTariffs$School" "latestKinds" "[I", Cond.fieldLink RX3 52 "ExcuseTariffs$School" "grudges" "[I", Cond.fieldLink RX3 55 "ExcuseTariffs$School" "refusedFor" "[I", Cond.fieldLink RX3 58 "ExcuseTariffs$School" "termsEnded" "I", Cond.static yX4_copy, Cond.code yX4_copy cX4_copy 2 none, Cond.methodLink RX4 217 Lib.Math.min.name, Cond.methodLink RX4 222 arraycopyName, Cond.native arraycopyName, Cond.static arraycopyName, Cond.initialized "java/lang/System", Cond.methodLink RX4 70 yX3_addExcuse, Cond.instanceMethod yX3_addExcuse]
def wsX4_add_r3 : List Cond := [Cond.selects RX3 yX3_addExcuse yX3_addExcuse, Cond.code yX3_addExcuse cX3_addExcuse 3 (some .int)]
def wsX4_add : List Cond := .code yX4_add cX4_add 3 (some .int) :: ((wsX4_add_r1 ++ (wsX4_add_r2 ++ wsX4_add_r3)) ++ wsX40 ++ wsX30 ++ wsX00)
def wsX4_worth_r1 : List Cond := [Cond.fieldLink RX4 10 "ExcuseTariffs" "school" "LExcuseTariffs$School;", Cond.fieldLink RX4 19 "ExcuseTariffs" "history" "LExcuseTariffs$History;", Cond.fieldLink RX4 78 "ExcuseTariffs$School" "worths" "[I", Cond.methodLink RX4 74 yX3_hasExcuse, Cond.instanceMethod yX3_hasExcuse, Cond.selects RX3 yX3_hasExcuse yX3_hasExcuse, Cond.initialized RX3, Cond.code yX3_hasExcuse cX3_hasExcuse 2 (some .boolean), Cond.fieldLink RX3 18 "ExcuseTariffs$School" "excuses" "I", Cond.methodLink RX4 49 yX4_isWithin, Cond.static yX4_isWithin, Cond.initialized RX4, Cond.code yX4_isWithin cX4_isWithin 3 (some .boolean), Cond.methodLink RX4 59 yX0_keep, Cond.instanceMethod yX0_keep, Cond.selects RX0 yX0_keep yX0_keep, Cond.initialized RX0, Cond.code yX0_keep cX0_keep 2 none, Cond.fieldLink RX0 11 "ExcuseTariffs$History" "states" "[LExcuseTariffs$School;", Cond.fieldLink RX0 17 "ExcuseTariffs$History" "next" "I", Cond.fieldLink RX0 21 "ExcuseTariffs$History" "kept" "I", Cond.methodLink RX0 29 Lib.Math.min.name, Cond.static Lib.Math.min.name, Cond.initialized "java/lang/Math"]
def wsX4_worth_r2 : List Cond := [Cond.code Lib.Math.min.name Lib.Math.min.code 2 (some .int), Cond.methodLink RX0 25 yX3_become, Cond.instanceMethod yX3_become, Cond.selects RX3 yX3_become yX3_become, Cond.code yX3_become cX3_become 2 none, Cond.fieldLink RX3 13 "ExcuseTariffs$School" "settings" "[I", Cond.fieldLink RX3 22 "ExcuseTariffs$School" "kinds" "[I", Cond.fieldLink RX3 25 "ExcuseTariffs$School" "worths" "[I", Cond.fieldLink RX3 28 "ExcuseTariffs$School" "usesInAllTerms" "[I", Cond.fieldLink RX3 31 "ExcuseTariffs$School" "uses" "[I", Cond.fieldLink RX3 34 "ExcuseTariffs$School" "credits" "[I", Cond.fieldLink RX3 37 "ExcuseTariffs$School" "fines" "[I", Cond.fieldLink RX3 40 "ExcuseTariffs$School" "paid" "[I", Cond.fieldLink RX3 43 "ExcuseTariffs$School" "stamps" "[I", Cond.fieldLink RX3 46 "ExcuseTariffs$School" "refusals" "[I", Cond.fieldLink RX3 49 "ExcuseTariffs$School" "latestKinds" "[I", Cond.fieldLink RX3 52 "ExcuseTariffs$School" "grudges" "[I", Cond.fieldLink RX3 55 "ExcuseTariffs$School" "refusedFor" "[I", Cond.fieldLink RX3 58 "ExcuseTariffs$School" "termsEnded" "I", Cond.static yX4_copy, Cond.code yX4_copy cX4_copy 2 none, Cond.methodLink RX4 217 Lib.Math.min.name, Cond.methodLink RX4 222 arraycopyName, Cond.native arraycopyName]
def wsX4_worth_r3 : List Cond := [Cond.static arraycopyName, Cond.initialized "java/lang/System"]
def wsX4_worth : List Cond := .code yX4_worth cX4_worth 4 (some .int) :: ((wsX4_worth_r1 ++ (wsX4_worth_r2 ++ wsX4_worth_r3)) ++ wsX40 ++ wsX30 ++ wsX00)
def wsX4_isPupil : List Cond := .code yX4_isPupil cX4_isPupil 1 (some .boolean) :: ([.methodLink RX4 49 yX4_isWithin, .static yX4_isWithin, .initialized RX4, .code yX4_isWithin cX4_isWithin 3 (some .boolean)])
def wsX4_offerError : List Cond := .code yX4_offerError cX4_offerError 5 (some .int) :: ([.fieldLink RX4 10 "ExcuseTariffs" "school" "LExcuseTariffs$School;", .methodLink RX4 88 yX4_isPupil, .static yX4_isPupil, .initialized RX4, .code yX4_isPupil cX4_isPupil 1 (some .boolean), .methodLink RX4 49 yX4_isWithin, .static yX4_isWithin, .code yX4_isWithin cX4_isWithin 3 (some .boolean), .methodLink RX4 74 yX3_hasExcuse, .instanceMethod yX3_hasExcuse, .selects RX3 yX3_hasExcuse yX3_hasExcuse, .initialized RX3, .code yX3_hasExcuse cX3_hasExcuse 2 (some .boolean), .fieldLink RX3 18 "ExcuseTariffs$School" "excuses" "I"] ++ wsX40 ++ wsX30)
def wsX4_offer_r1 : List Cond := [Cond.fieldLink RX4 19 "ExcuseTariffs" "history" "LExcuseTariffs$History;", Cond.fieldLink RX4 10 "ExcuseTariffs" "school" "LExcuseTariffs$School;", Cond.methodLink RX4 81 yX4_offerError, Cond.instanceMethod yX4_offerError, Cond.selects RX4 yX4_offerError yX4_offerError, Cond.initialized RX4, Cond.code yX4_offerError cX4_offerError 5 (some .int), Cond.methodLink RX4 88 yX4_isPupil, Cond.static yX4_isPupil, Cond.code yX4_isPupil cX4_isPupil 1 (some .boolean), Cond.methodLink RX4 49 yX4_isWithin, Cond.static yX4_isWithin, Cond.code yX4_isWithin cX4_isWithin 3 (some .boolean), Cond.methodLink RX4 74 yX3_hasExcuse, Cond.instanceMethod yX3_hasExcuse, Cond.selects RX3 yX3_hasExcuse yX3_hasExcuse, Cond.initialized RX3, Cond.code yX3_hasExcuse cX3_hasExcuse 2 (some .boolean), Cond.fieldLink RX3 18 "ExcuseTariffs$School" "excuses" "I", Cond.methodLink RX4 59 yX0_keep, Cond.instanceMethod yX0_keep, Cond.selects RX0 yX0_keep yX0_keep, Cond.initialized RX0, Cond.code yX0_keep cX0_keep 2 none]
def wsX4_offer_r2 : List Cond := [Cond.fieldLink RX0 11 "ExcuseTariffs$History" "states" "[LExcuseTariffs$School;", Cond.fieldLink RX0 17 "ExcuseTariffs$History" "next" "I", Cond.fieldLink RX0 21 "ExcuseTariffs$History" "kept" "I", Cond.methodLink RX0 29 Lib.Math.min.name, Cond.static Lib.Math.min.name, Cond.initialized "java/lang/Math", Cond.code Lib.Math.min.name Lib.Math.min.code 2 (some .int), Cond.methodLink RX0 25 yX3_become, Cond.instanceMethod yX3_become, Cond.selects RX3 yX3_become yX3_become, Cond.code yX3_become cX3_become 2 none, Cond.fieldLink RX3 13 "ExcuseTariffs$School" "settings" "[I", Cond.fieldLink RX3 22 "ExcuseTariffs$School" "kinds" "[I", Cond.fieldLink RX3 25 "ExcuseTariffs$School" "worths" "[I", Cond.fieldLink RX3 28 "ExcuseTariffs$School" "usesInAllTerms" "[I", Cond.fieldLink RX3 31 "ExcuseTariffs$School" "uses" "[I", Cond.fieldLink RX3 34 "ExcuseTariffs$School" "credits" "[I", Cond.fieldLink RX3 37 "ExcuseTariffs$School" "fines" "[I", Cond.fieldLink RX3 40 "ExcuseTariffs$School" "paid" "[I", Cond.fieldLink RX3 43 "ExcuseTariffs$School" "stamps" "[I", Cond.fieldLink RX3 46 "ExcuseTariffs$School" "refusals" "[I", Cond.fieldLink RX3 49 "ExcuseTariffs$School" "latestKinds" "[I", Cond.fieldLink RX3 52 "ExcuseTariffs$School" "grudges" "[I", Cond.fieldLink RX3 55 "ExcuseTariffs$School" "refusedFor" "[I"]
def wsX4_offer_r3 : List Cond := [Cond.fieldLink RX3 58 "ExcuseTariffs$School" "termsEnded" "I", Cond.static yX4_copy, Cond.code yX4_copy cX4_copy 2 none, Cond.methodLink RX4 217 Lib.Math.min.name, Cond.methodLink RX4 222 arraycopyName, Cond.native arraycopyName, Cond.static arraycopyName, Cond.initialized "java/lang/System", Cond.methodLink RX4 85 yX3_takeOffer, Cond.instanceMethod yX3_takeOffer, Cond.selects RX3 yX3_takeOffer yX3_takeOffer, Cond.code yX3_takeOffer cX3_takeOffer 6 (some .int), Cond.methodLink RX3 98 yX3_reasonAgainst, Cond.instanceMethod yX3_reasonAgainst, Cond.selects RX3 yX3_reasonAgainst yX3_reasonAgainst, Cond.code yX3_reasonAgainst cX3_reasonAgainst 5 (some .int), Cond.methodLink RX3 65 yX3_usesOf, Cond.instanceMethod yX3_usesOf, Cond.selects RX3 yX3_usesOf yX3_usesOf, Cond.code yX3_usesOf cX3_usesOf 3 (some .int), Cond.methodLink RX3 94 yX3_weightOf, Cond.instanceMethod yX3_weightOf, Cond.selects RX3 yX3_weightOf yX3_weightOf, Cond.code yX3_weightOf cX3_weightOf 6 (some .int)]
def wsX4_offer_r4 : List Cond := [Cond.methodLink RX3 88 yX3_noveltyFor, Cond.instanceMethod yX3_noveltyFor, Cond.selects RX3 yX3_noveltyFor yX3_noveltyFor, Cond.code yX3_noveltyFor cX3_noveltyFor 4 (some .int), Cond.methodLink RX3 79 Lib.Math.max.name, Cond.static Lib.Math.max.name, Cond.code Lib.Math.max.name Lib.Math.max.code 2 (some .int), Cond.methodLink RX3 69 yX3_usesBySchool, Cond.instanceMethod yX3_usesBySchool, Cond.selects RX3 yX3_usesBySchool yX3_usesBySchool, Cond.code yX3_usesBySchool cX3_usesBySchool 4 (some .int), Cond.static yX4_classOf, Cond.code yX4_classOf cX4_classOf 1 (some .int), Cond.methodLink RX3 76 yX3_usesByClass, Cond.instanceMethod yX3_usesByClass, Cond.selects RX3 yX3_usesByClass yX3_usesByClass, Cond.code yX3_usesByClass cX3_usesByClass 4 (some .int), Cond.methodLink RX3 91 yX3_standingOf, Cond.instanceMethod yX3_standingOf, Cond.selects RX3 yX3_standingOf yX3_standingOf, Cond.code yX3_standingOf cX3_standingOf 3 (some .int), Cond.methodLink RX3 101 yX3_stamp, Cond.instanceMethod yX3_stamp, Cond.selects RX3 yX3_stamp yX3_stamp]
def wsX4_offer_r5 : List Cond := [Cond.code yX3_stamp cX3_stamp 5 none, Cond.methodLink RX3 108 yX3_takeCredit, Cond.instanceMethod yX3_takeCredit, Cond.selects RX3 yX3_takeCredit yX3_takeCredit, Cond.code yX3_takeCredit cX3_takeCredit 3 none, Cond.methodLink RX3 112 yX3_angerMasterOf, Cond.instanceMethod yX3_angerMasterOf, Cond.selects RX3 yX3_angerMasterOf yX3_angerMasterOf, Cond.code yX3_angerMasterOf cX3_angerMasterOf 3 none, Cond.methodLink RX3 116 Lib.Math.min.name, Cond.methodLink RX3 105 yX3_refuse, Cond.instanceMethod yX3_refuse, Cond.selects RX3 yX3_refuse yX3_refuse, Cond.code yX3_refuse cX3_refuse 5 none]
def wsX4_offer : List Cond := .code yX4_offer cX4_offer 6 (some .int) :: ((wsX4_offer_r1 ++ (wsX4_offer_r2 ++ (wsX4_offer_r3 ++ (wsX4_offer_r4 ++ wsX4_offer_r5)))) ++ wsX40 ++ wsX30 ++ wsX00)
def wsX4_pay_r1 : List Cond := [Cond.fieldLink RX4 10 "ExcuseTariffs" "school" "LExcuseTariffs$School;", Cond.fieldLink RX4 91 "ExcuseTariffs$School" "fines" "[I", Cond.fieldLink RX4 19 "ExcuseTariffs" "history" "LExcuseTariffs$History;", Cond.fieldLink RX4 94 "ExcuseTariffs$School" "paid" "[I", Cond.methodLink RX4 88 yX4_isPupil, Cond.static yX4_isPupil, Cond.initialized RX4, Cond.code yX4_isPupil cX4_isPupil 1 (some .boolean), Cond.methodLink RX4 49 yX4_isWithin, Cond.static yX4_isWithin, Cond.code yX4_isWithin cX4_isWithin 3 (some .boolean), Cond.methodLink RX4 59 yX0_keep, Cond.instanceMethod yX0_keep, Cond.selects RX0 yX0_keep yX0_keep, Cond.initialized RX0, Cond.code yX0_keep cX0_keep 2 none, Cond.fieldLink RX0 11 "ExcuseTariffs$History" "states" "[LExcuseTariffs$School;", Cond.fieldLink RX0 17 "ExcuseTariffs$History" "next" "I", Cond.fieldLink RX0 21 "ExcuseTariffs$History" "kept" "I", Cond.methodLink RX0 29 Lib.Math.min.name, Cond.static Lib.Math.min.name, Cond.initialized "java/lang/Math", Cond.code Lib.Math.min.name Lib.Math.min.code 2 (some .int), Cond.methodLink RX0 25 yX3_become]
def wsX4_pay_r2 : List Cond := [Cond.instanceMethod yX3_become, Cond.selects RX3 yX3_become yX3_become, Cond.initialized RX3, Cond.code yX3_become cX3_become 2 none, Cond.fieldLink RX3 13 "ExcuseTariffs$School" "settings" "[I", Cond.fieldLink RX3 18 "ExcuseTariffs$School" "excuses" "I", Cond.fieldLink RX3 22 "ExcuseTariffs$School" "kinds" "[I", Cond.fieldLink RX3 25 "ExcuseTariffs$School" "worths" "[I", Cond.fieldLink RX3 28 "ExcuseTariffs$School" "usesInAllTerms" "[I", Cond.fieldLink RX3 31 "ExcuseTariffs$School" "uses" "[I", Cond.fieldLink RX3 34 "ExcuseTariffs$School" "credits" "[I", Cond.fieldLink RX3 37 "ExcuseTariffs$School" "fines" "[I", Cond.fieldLink RX3 40 "ExcuseTariffs$School" "paid" "[I", Cond.fieldLink RX3 43 "ExcuseTariffs$School" "stamps" "[I", Cond.fieldLink RX3 46 "ExcuseTariffs$School" "refusals" "[I", Cond.fieldLink RX3 49 "ExcuseTariffs$School" "latestKinds" "[I", Cond.fieldLink RX3 52 "ExcuseTariffs$School" "grudges" "[I", Cond.fieldLink RX3 55 "ExcuseTariffs$School" "refusedFor" "[I", Cond.fieldLink RX3 58 "ExcuseTariffs$School" "termsEnded" "I", Cond.static yX4_copy, Cond.code yX4_copy cX4_copy 2 none, Cond.methodLink RX4 217 Lib.Math.min.name, Cond.methodLink RX4 222 arraycopyName, Cond.native arraycopyName]
def wsX4_pay_r3 : List Cond := [Cond.static arraycopyName, Cond.initialized "java/lang/System"]
def wsX4_pay : List Cond := .code yX4_pay cX4_pay 3 (some .int) :: ((wsX4_pay_r1 ++ (wsX4_pay_r2 ++ wsX4_pay_r3)) ++ wsX40 ++ wsX30 ++ wsX00)
def wsX4_sum : List Cond := .code yX4_sum cX4_sum 3 (some .int) :: ([])
def wsX4_endTerm_r1 : List Cond := [Cond.fieldLink RX4 19 "ExcuseTariffs" "history" "LExcuseTariffs$History;", Cond.fieldLink RX4 10 "ExcuseTariffs" "school" "LExcuseTariffs$School;", Cond.fieldLink RX4 97 "ExcuseTariffs$School" "uses" "[I", Cond.methodLink RX4 59 yX0_keep, Cond.instanceMethod yX0_keep, Cond.selects RX0 yX0_keep yX0_keep, Cond.initialized RX0, Cond.code yX0_keep cX0_keep 2 none, Cond.fieldLink RX0 11 "ExcuseTariffs$History" "states" "[LExcuseTariffs$School;", Cond.fieldLink RX0 17 "ExcuseTariffs$History" "next" "I", Cond.fieldLink RX0 21 "ExcuseTariffs$History" "kept" "I", Cond.methodLink RX0 29 Lib.Math.min.name, Cond.static Lib.Math.min.name, Cond.initialized "java/lang/Math", Cond.code Lib.Math.min.name Lib.Math.min.code 2 (some .int), Cond.methodLink RX0 25 yX3_become, Cond.instanceMethod yX3_become, Cond.selects RX3 yX3_become yX3_become, Cond.initialized RX3, Cond.code yX3_become cX3_become 2 none, Cond.fieldLink RX3 13 "ExcuseTariffs$School" "settings" "[I", Cond.fieldLink RX3 18 "ExcuseTariffs$School" "excuses" "I", Cond.fieldLink RX3 22 "ExcuseTariffs$School" "kinds" "[I", Cond.fieldLink RX3 25 "ExcuseTariffs$School" "worths" "[I"]
def wsX4_endTerm_r2 : List Cond := [Cond.fieldLink RX3 28 "ExcuseTariffs$School" "usesInAllTerms" "[I", Cond.fieldLink RX3 31 "ExcuseTariffs$School" "uses" "[I", Cond.fieldLink RX3 34 "ExcuseTariffs$School" "credits" "[I", Cond.fieldLink RX3 37 "ExcuseTariffs$School" "fines" "[I", Cond.fieldLink RX3 40 "ExcuseTariffs$School" "paid" "[I", Cond.fieldLink RX3 43 "ExcuseTariffs$School" "stamps" "[I", Cond.fieldLink RX3 46 "ExcuseTariffs$School" "refusals" "[I", Cond.fieldLink RX3 49 "ExcuseTariffs$School" "latestKinds" "[I", Cond.fieldLink RX3 52 "ExcuseTariffs$School" "grudges" "[I", Cond.fieldLink RX3 55 "ExcuseTariffs$School" "refusedFor" "[I", Cond.fieldLink RX3 58 "ExcuseTariffs$School" "termsEnded" "I", Cond.static yX4_copy, Cond.initialized RX4, Cond.code yX4_copy cX4_copy 2 none, Cond.methodLink RX4 217 Lib.Math.min.name, Cond.methodLink RX4 222 arraycopyName, Cond.native arraycopyName, Cond.static arraycopyName, Cond.initialized "java/lang/System", Cond.methodLink RX4 100 yX4_sum, Cond.static yX4_sum, Cond.code yX4_sum cX4_sum 3 (some .int), Cond.methodLink RX4 104 yX3_beginNextTerm, Cond.instanceMethod yX3_beginNextTerm]
def wsX4_endTerm_r3 : List Cond := [Cond.selects RX3 yX3_beginNextTerm yX3_beginNextTerm, Cond.code yX3_beginNextTerm cX3_beginNextTerm 2 none, Cond.methodLink RX3 116 Lib.Math.min.name]
def wsX4_endTerm : List Cond := .code yX4_endTerm cX4_endTerm 2 (some .int) :: ((wsX4_endTerm_r1 ++ (wsX4_endTerm_r2 ++ wsX4_endTerm_r3)) ++ wsX40 ++ wsX30 ++ wsX00)
def wsX4_fault_r1 : List Cond := [Cond.fieldLink RX4 41 "ExcuseTariffs" "reader" "LExcuseTariffs$Reader;", Cond.fieldLink RX4 34 "ExcuseTariffs" "pad" "LExcuseTariffs$Pad;", Cond.fieldLink RX4 114 "ExcuseTariffs$Pad" "length" "I", Cond.fieldLink RX4 117 "ExcuseTariffs$Pad" "characters" "[C", Cond.methodLink RX4 111 yX2_begin, Cond.instanceMethod yX2_begin, Cond.selects RX2 yX2_begin yX2_begin, Cond.initialized RX2, Cond.code yX2_begin cX2_begin 1 none, Cond.fieldLink RX2 11 "ExcuseTariffs$Reader" "place" "I", Cond.fieldLink RX2 24 "ExcuseTariffs$Reader" "witness" "I", Cond.methodLink RX4 124 yX2_takes, Cond.instanceMethod yX2_takes, Cond.selects RX2 yX2_takes yX2_takes, Cond.code yX2_takes cX2_takes 2 (some .boolean), Cond.fieldLink RX2 21 "ExcuseTariffs$Reader" "minutes" "I", Cond.methodLink RX2 27 yX2_takesPupil, Cond.instanceMethod yX2_takesPupil, Cond.selects RX2 yX2_takesPupil yX2_takesPupil, Cond.code yX2_takesPupil cX2_takesPupil 2 (some .boolean), Cond.fieldLink RX2 15 "ExcuseTariffs$Reader" "pupil" "I", Cond.methodLink RX2 51 yX2_isDigit, Cond.static yX2_isDigit, Cond.code yX2_isDigit cX2_isDigit 1 (some .boolean)]
def wsX4_fault_r2 : List Cond := [Cond.static yX4_isWithin, Cond.initialized RX4, Cond.code yX4_isWithin cX4_isWithin 3 (some .boolean), Cond.methodLink RX2 34 yX2_goesOn, Cond.instanceMethod yX2_goesOn, Cond.selects RX2 yX2_goesOn yX2_goesOn, Cond.code yX2_goesOn cX2_goesOn 3 (some .boolean), Cond.methodLink RX2 31 yX2_takesExcuse, Cond.instanceMethod yX2_takesExcuse, Cond.selects RX2 yX2_takesExcuse yX2_takesExcuse, Cond.code yX2_takesExcuse cX2_takesExcuse 3 (some .boolean), Cond.fieldLink RX2 18 "ExcuseTariffs$Reader" "excuse" "I", Cond.methodLink RX2 38 yX2_takesMinutes, Cond.instanceMethod yX2_takesMinutes, Cond.selects RX2 yX2_takesMinutes yX2_takesMinutes, Cond.code yX2_takesMinutes cX2_takesMinutes 4 (some .boolean), Cond.methodLink RX2 42 yX2_takesAfterMinutes, Cond.instanceMethod yX2_takesAfterMinutes, Cond.selects RX2 yX2_takesAfterMinutes yX2_takesAfterMinutes, Cond.code yX2_takesAfterMinutes cX2_takesAfterMinutes 2 (some .boolean), Cond.methodLink RX2 48 yX2_takesComma, Cond.instanceMethod yX2_takesComma, Cond.selects RX2 yX2_takesComma yX2_takesComma, Cond.code yX2_takesComma cX2_takesComma 2 (some .boolean)]
def wsX4_fault_r3 : List Cond := [Cond.methodLink RX2 45 yX2_takesWitness, Cond.instanceMethod yX2_takesWitness, Cond.selects RX2 yX2_takesWitness yX2_takesWitness, Cond.code yX2_takesWitness cX2_takesWitness 3 (some .boolean), Cond.methodLink RX4 195 yX2_canEnd, Cond.instanceMethod yX2_canEnd, Cond.selects RX2 yX2_canEnd yX2_canEnd, Cond.code yX2_canEnd cX2_canEnd 1 (some .boolean)]
def wsX4_fault : List Cond := .code yX4_fault cX4_fault 2 (some .int) :: ((wsX4_fault_r1 ++ (wsX4_fault_r2 ++ wsX4_fault_r3)) ++ wsX40 ++ wsX10 ++ wsX20)
def wsX4_stampsForWhatWasRead_r1 : List Cond := [Cond.fieldLink RX4 10 "ExcuseTariffs" "school" "LExcuseTariffs$School;", Cond.fieldLink RX4 41 "ExcuseTariffs" "reader" "LExcuseTariffs$Reader;", Cond.fieldLink RX4 205 "ExcuseTariffs$Reader" "excuse" "I", Cond.fieldLink RX4 208 "ExcuseTariffs$Reader" "pupil" "I", Cond.fieldLink RX4 211 "ExcuseTariffs$Reader" "witness" "I", Cond.fieldLink RX4 214 "ExcuseTariffs$Reader" "minutes" "I", Cond.methodLink RX4 74 yX3_hasExcuse, Cond.instanceMethod yX3_hasExcuse, Cond.selects RX3 yX3_hasExcuse yX3_hasExcuse, Cond.initialized RX3, Cond.code yX3_hasExcuse cX3_hasExcuse 2 (some .boolean), Cond.fieldLink RX3 18 "ExcuseTariffs$School" "excuses" "I", Cond.methodLink RX4 85 yX3_takeOffer, Cond.instanceMethod yX3_takeOffer, Cond.selects RX3 yX3_takeOffer yX3_takeOffer, Cond.code yX3_takeOffer cX3_takeOffer 6 (some .int), Cond.fieldLink RX3 49 "ExcuseTariffs$School" "latestKinds" "[I", Cond.fieldLink RX3 22 "ExcuseTariffs$School" "kinds" "[I", Cond.methodLink RX3 98 yX3_reasonAgainst, Cond.instanceMethod yX3_reasonAgainst, Cond.selects RX3 yX3_reasonAgainst yX3_reasonAgainst, Cond.code yX3_reasonAgainst cX3_reasonAgainst 5 (some .int), Cond.fieldLink RX3 13 "ExcuseTariffs$School" "settings" "[I", Cond.fieldLink RX3 34 "ExcuseTariffs$School" "credits" "[I"]
def wsX4_stampsForWhatWasRead_r2 : List Cond := [Cond.methodLink RX3 65 yX3_usesOf, Cond.instanceMethod yX3_usesOf, Cond.selects RX3 yX3_usesOf yX3_usesOf, Cond.code yX3_usesOf cX3_usesOf 3 (some .int), Cond.fieldLink RX3 31 "ExcuseTariffs$School" "uses" "[I", Cond.methodLink RX3 94 yX3_weightOf, Cond.instanceMethod yX3_weightOf, Cond.selects RX3 yX3_weightOf yX3_weightOf, Cond.code yX3_weightOf cX3_weightOf 6 (some .int), Cond.fieldLink RX3 25 "ExcuseTariffs$School" "worths" "[I", Cond.fieldLink RX3 52 "ExcuseTariffs$School" "grudges" "[I", Cond.methodLink RX3 88 yX3_noveltyFor, Cond.instanceMethod yX3_noveltyFor, Cond.selects RX3 yX3_noveltyFor yX3_noveltyFor, Cond.code yX3_noveltyFor cX3_noveltyFor 4 (some .int), Cond.methodLink RX3 79 Lib.Math.max.name, Cond.static Lib.Math.max.name, Cond.initialized "java/lang/Math", Cond.code Lib.Math.max.name Lib.Math.max.code 2 (some .int), Cond.methodLink RX3 69 yX3_usesBySchool, Cond.instanceMethod yX3_usesBySchool, Cond.selects RX3 yX3_usesBySchool yX3_usesBySchool, Cond.code yX3_usesBySchool cX3_usesBySchool 4 (some .int), Cond.static yX4_classOf]
def wsX4_stampsForWhatWasRead_r3 : List Cond := [Cond.initialized RX4, Cond.code yX4_classOf cX4_classOf 1 (some .int), Cond.methodLink RX3 76 yX3_usesByClass, Cond.instanceMethod yX3_usesByClass, Cond.selects RX3 yX3_usesByClass yX3_usesByClass, Cond.code yX3_usesByClass cX3_usesByClass 4 (some .int), Cond.methodLink RX3 91 yX3_standingOf, Cond.instanceMethod yX3_standingOf, Cond.selects RX3 yX3_standingOf yX3_standingOf, Cond.code yX3_standingOf cX3_standingOf 3 (some .int), Cond.methodLink RX3 101 yX3_stamp, Cond.instanceMethod yX3_stamp, Cond.selects RX3 yX3_stamp yX3_stamp, Cond.code yX3_stamp cX3_stamp 5 none, Cond.fieldLink RX3 28 "ExcuseTariffs$School" "usesInAllTerms" "[I", Cond.fieldLink RX3 43 "ExcuseTariffs$School" "stamps" "[I", Cond.methodLink RX3 108 yX3_takeCredit, Cond.instanceMethod yX3_takeCredit, Cond.selects RX3 yX3_takeCredit yX3_takeCredit, Cond.code yX3_takeCredit cX3_takeCredit 3 none, Cond.methodLink RX3 112 yX3_angerMasterOf, Cond.instanceMethod yX3_angerMasterOf, Cond.selects RX3 yX3_angerMasterOf yX3_angerMasterOf, Cond.code yX3_angerMasterOf cX3_angerMasterOf 3 none]
def wsX4_stampsForWhatWasRead_r4 : List Cond := [Cond.methodLink RX3 116 Lib.Math.min.name, Cond.static Lib.Math.min.name, Cond.code Lib.Math.min.name Lib.Math.min.code 2 (some .int), Cond.methodLink RX3 105 yX3_refuse, Cond.instanceMethod yX3_refuse, Cond.selects RX3 yX3_refuse yX3_refuse, Cond.code yX3_refuse cX3_refuse 5 none, Cond.fieldLink RX3 37 "ExcuseTariffs$School" "fines" "[I", Cond.fieldLink RX3 46 "ExcuseTariffs$School" "refusals" "[I", Cond.fieldLink RX3 55 "ExcuseTariffs$School" "refusedFor" "[I"]
def wsX4_stampsForWhatWasRead : List Cond := .code yX4_stampsForWhatWasRead cX4_stampsForWhatWasRead 2 (some .int) :: ((wsX4_stampsForWhatWasRead_r1 ++ (wsX4_stampsForWhatWasRead_r2 ++ (wsX4_stampsForWhatWasRead_r3 ++ wsX4_stampsForWhatWasRead_r4))) ++ wsX40 ++ wsX20 ++ wsX30)
def wsX4_read_r1 : List Cond := [Cond.fieldLink RX4 19 "ExcuseTariffs" "history" "LExcuseTariffs$History;", Cond.fieldLink RX4 10 "ExcuseTariffs" "school" "LExcuseTariffs$School;", Cond.fieldLink RX4 41 "ExcuseTariffs" "reader" "LExcuseTariffs$Reader;", Cond.fieldLink RX4 34 "ExcuseTariffs" "pad" "LExcuseTariffs$Pad;", Cond.fieldLink RX4 114 "ExcuseTariffs$Pad" "length" "I", Cond.fieldLink RX4 117 "ExcuseTariffs$Pad" "characters" "[C", Cond.methodLink RX4 107 yX4_fault, Cond.instanceMethod yX4_fault, Cond.selects RX4 yX4_fault yX4_fault, Cond.initialized RX4, Cond.code yX4_fault cX4_fault 2 (some .int), Cond.methodLink RX4 111 yX2_begin, Cond.instanceMethod yX2_begin, Cond.selects RX2 yX2_begin yX2_begin, Cond.initialized RX2, Cond.code yX2_begin cX2_begin 1 none, Cond.fieldLink RX2 11 "ExcuseTariffs$Reader" "place" "I", Cond.fieldLink RX2 24 "ExcuseTariffs$Reader" "witness" "I", Cond.methodLink RX4 124 yX2_takes, Cond.instanceMethod yX2_takes, Cond.selects RX2 yX2_takes yX2_takes, Cond.code yX2_takes cX2_takes 2 (some .boolean), Cond.fieldLink RX2 21 "ExcuseTariffs$Reader" "minutes" "I", Cond.methodLink RX2 27 yX2_takesPupil]
def wsX4_read_r2 : List Cond := [Cond.instanceMethod yX2_takesPupil, Cond.selects RX2 yX2_takesPupil yX2_takesPupil, Cond.code yX2_takesPupil cX2_takesPupil 2 (some .boolean), Cond.fieldLink RX2 15 "ExcuseTariffs$Reader" "pupil" "I", Cond.methodLink RX2 51 yX2_isDigit, Cond.static yX2_isDigit, Cond.code yX2_isDigit cX2_isDigit 1 (some .boolean), Cond.static yX4_isWithin, Cond.code yX4_isWithin cX4_isWithin 3 (some .boolean), Cond.methodLink RX2 34 yX2_goesOn, Cond.instanceMethod yX2_goesOn, Cond.selects RX2 yX2_goesOn yX2_goesOn, Cond.code yX2_goesOn cX2_goesOn 3 (some .boolean), Cond.methodLink RX2 31 yX2_takesExcuse, Cond.instanceMethod yX2_takesExcuse, Cond.selects RX2 yX2_takesExcuse yX2_takesExcuse, Cond.code yX2_takesExcuse cX2_takesExcuse 3 (some .boolean), Cond.fieldLink RX2 18 "ExcuseTariffs$Reader" "excuse" "I", Cond.methodLink RX2 38 yX2_takesMinutes, Cond.instanceMethod yX2_takesMinutes, Cond.selects RX2 yX2_takesMinutes yX2_takesMinutes, Cond.code yX2_takesMinutes cX2_takesMinutes 4 (some .boolean), Cond.methodLink RX2 42 yX2_takesAfterMinutes, Cond.instanceMethod yX2_takesAfterMinutes]
def wsX4_read_r3 : List Cond := [Cond.selects RX2 yX2_takesAfterMinutes yX2_takesAfterMinutes, Cond.code yX2_takesAfterMinutes cX2_takesAfterMinutes 2 (some .boolean), Cond.methodLink RX2 48 yX2_takesComma, Cond.instanceMethod yX2_takesComma, Cond.selects RX2 yX2_takesComma yX2_takesComma, Cond.code yX2_takesComma cX2_takesComma 2 (some .boolean), Cond.methodLink RX2 45 yX2_takesWitness, Cond.instanceMethod yX2_takesWitness, Cond.selects RX2 yX2_takesWitness yX2_takesWitness, Cond.code yX2_takesWitness cX2_takesWitness 3 (some .boolean), Cond.methodLink RX4 195 yX2_canEnd, Cond.instanceMethod yX2_canEnd, Cond.selects RX2 yX2_canEnd yX2_canEnd, Cond.code yX2_canEnd cX2_canEnd 1 (some .boolean), Cond.methodLink RX4 59 yX0_keep, Cond.instanceMethod yX0_keep, Cond.selects RX0 yX0_keep yX0_keep, Cond.initialized RX0, Cond.code yX0_keep cX0_keep 2 none, Cond.fieldLink RX0 11 "ExcuseTariffs$History" "states" "[LExcuseTariffs$School;", Cond.fieldLink RX0 17 "ExcuseTariffs$History" "next" "I", Cond.fieldLink RX0 21 "ExcuseTariffs$History" "kept" "I", Cond.methodLink RX0 29 Lib.Math.min.name, Cond.static Lib.Math.min.name]
def wsX4_read_r4 : List Cond := [Cond.initialized "java/lang/Math", Cond.code Lib.Math.min.name Lib.Math.min.code 2 (some .int), Cond.methodLink RX0 25 yX3_become, Cond.instanceMethod yX3_become, Cond.selects RX3 yX3_become yX3_become, Cond.initialized RX3, Cond.code yX3_become cX3_become 2 none, Cond.fieldLink RX3 13 "ExcuseTariffs$School" "settings" "[I", Cond.fieldLink RX3 18 "ExcuseTariffs$School" "excuses" "I", Cond.fieldLink RX3 22 "ExcuseTariffs$School" "kinds" "[I", Cond.fieldLink RX3 25 "ExcuseTariffs$School" "worths" "[I", Cond.fieldLink RX3 28 "ExcuseTariffs$School" "usesInAllTerms" "[I", Cond.fieldLink RX3 31 "ExcuseTariffs$School" "uses" "[I", Cond.fieldLink RX3 34 "ExcuseTariffs$School" "credits" "[I", Cond.fieldLink RX3 37 "ExcuseTariffs$School" "fines" "[I", Cond.fieldLink RX3 40 "ExcuseTariffs$School" "paid" "[I", Cond.fieldLink RX3 43 "ExcuseTariffs$School" "stamps" "[I", Cond.fieldLink RX3 46 "ExcuseTariffs$School" "refusals" "[I", Cond.fieldLink RX3 49 "ExcuseTariffs$School" "latestKinds" "[I", Cond.fieldLink RX3 52 "ExcuseTariffs$School" "grudges" "[I", Cond.fieldLink RX3 55 "ExcuseTariffs$School" "refusedFor" "[I", Cond.fieldLink RX3 58 "ExcuseTariffs$School" "termsEnded" "I", Cond.static yX4_copy, Cond.code yX4_copy cX4_copy 2 none]
def wsX4_read_r5 : List Cond := [Cond.methodLink RX4 217 Lib.Math.min.name, Cond.methodLink RX4 222 arraycopyName, Cond.native arraycopyName, Cond.static arraycopyName, Cond.initialized "java/lang/System", Cond.methodLink RX4 121 yX4_stampsForWhatWasRead, Cond.instanceMethod yX4_stampsForWhatWasRead, Cond.selects RX4 yX4_stampsForWhatWasRead yX4_stampsForWhatWasRead, Cond.code yX4_stampsForWhatWasRead cX4_stampsForWhatWasRead 2 (some .int), Cond.fieldLink RX4 205 "ExcuseTariffs$Reader" "excuse" "I", Cond.fieldLink RX4 208 "ExcuseTariffs$Reader" "pupil" "I", Cond.fieldLink RX4 211 "ExcuseTariffs$Reader" "witness" "I", Cond.fieldLink RX4 214 "ExcuseTariffs$Reader" "minutes" "I", Cond.methodLink RX4 74 yX3_hasExcuse, Cond.instanceMethod yX3_hasExcuse, Cond.selects RX3 yX3_hasExcuse yX3_hasExcuse, Cond.code yX3_hasExcuse cX3_hasExcuse 2 (some .boolean), Cond.methodLink RX4 85 yX3_takeOffer, Cond.instanceMethod yX3_takeOffer, Cond.selects RX3 yX3_takeOffer yX3_takeOffer, Cond.code yX3_takeOffer cX3_takeOffer 6 (some .int), Cond.methodLink RX3 98 yX3_reasonAgainst, Cond.instanceMethod yX3_reasonAgainst, Cond.selects RX3 yX3_reasonAgainst yX3_reasonAgainst]
def wsX4_read_r6 : List Cond := [Cond.code yX3_reasonAgainst cX3_reasonAgainst 5 (some .int), Cond.methodLink RX3 65 yX3_usesOf, Cond.instanceMethod yX3_usesOf, Cond.selects RX3 yX3_usesOf yX3_usesOf, Cond.code yX3_usesOf cX3_usesOf 3 (some .int), Cond.methodLink RX3 94 yX3_weightOf, Cond.instanceMethod yX3_weightOf, Cond.selects RX3 yX3_weightOf yX3_weightOf, Cond.code yX3_weightOf cX3_weightOf 6 (some .int), Cond.methodLink RX3 88 yX3_noveltyFor, Cond.instanceMethod yX3_noveltyFor, Cond.selects RX3 yX3_noveltyFor yX3_noveltyFor, Cond.code yX3_noveltyFor cX3_noveltyFor 4 (some .int), Cond.methodLink RX3 79 Lib.Math.max.name, Cond.static Lib.Math.max.name, Cond.code Lib.Math.max.name Lib.Math.max.code 2 (some .int), Cond.methodLink RX3 69 yX3_usesBySchool, Cond.instanceMethod yX3_usesBySchool, Cond.selects RX3 yX3_usesBySchool yX3_usesBySchool, Cond.code yX3_usesBySchool cX3_usesBySchool 4 (some .int), Cond.static yX4_classOf, Cond.code yX4_classOf cX4_classOf 1 (some .int), Cond.methodLink RX3 76 yX3_usesByClass, Cond.instanceMethod yX3_usesByClass]
def wsX4_read_r7 : List Cond := [Cond.selects RX3 yX3_usesByClass yX3_usesByClass, Cond.code yX3_usesByClass cX3_usesByClass 4 (some .int), Cond.methodLink RX3 91 yX3_standingOf, Cond.instanceMethod yX3_standingOf, Cond.selects RX3 yX3_standingOf yX3_standingOf, Cond.code yX3_standingOf cX3_standingOf 3 (some .int), Cond.methodLink RX3 101 yX3_stamp, Cond.instanceMethod yX3_stamp, Cond.selects RX3 yX3_stamp yX3_stamp, Cond.code yX3_stamp cX3_stamp 5 none, Cond.methodLink RX3 108 yX3_takeCredit, Cond.instanceMethod yX3_takeCredit, Cond.selects RX3 yX3_takeCredit yX3_takeCredit, Cond.code yX3_takeCredit cX3_takeCredit 3 none, Cond.methodLink RX3 112 yX3_angerMasterOf, Cond.instanceMethod yX3_angerMasterOf, Cond.selects RX3 yX3_angerMasterOf yX3_angerMasterOf, Cond.code yX3_angerMasterOf cX3_angerMasterOf 3 none, Cond.methodLink RX3 116 Lib.Math.min.name, Cond.methodLink RX3 105 yX3_refuse, Cond.instanceMethod yX3_refuse, Cond.selects RX3 yX3_refuse yX3_refuse, Cond.code yX3_refuse cX3_refuse 5 none]
def wsX4_read : List Cond := .code yX4_read cX4_read 3 (some .int) :: ((wsX4_read_r1 ++ (wsX4_read_r2 ++ (wsX4_read_r3 ++ (wsX4_read_r4 ++ (wsX4_read_r5 ++ (wsX4_read_r6 ++ wsX4_read_r7)))))) ++ wsX40 ++ wsX10 ++ wsX20 ++ wsX00 ++ wsX30)
def wsX4_excuse : List Cond := .code yX4_excuse cX4_excuse 3 (some .int) :: ([.fieldLink RX4 10 "ExcuseTariffs" "school" "LExcuseTariffs$School;", .fieldLink RX4 128 "ExcuseTariffs$School" "kinds" "[I", .fieldLink RX4 78 "ExcuseTariffs$School" "worths" "[I", .fieldLink RX4 135 "ExcuseTariffs$School" "usesInAllTerms" "[I", .methodLink RX4 74 yX3_hasExcuse, .instanceMethod yX3_hasExcuse, .selects RX3 yX3_hasExcuse yX3_hasExcuse, .initialized RX3, .code yX3_hasExcuse cX3_hasExcuse 2 (some .boolean), .fieldLink RX3 18 "ExcuseTariffs$School" "excuses" "I", .methodLink RX4 131 yX3_usesBySchool, .instanceMethod yX3_usesBySchool, .selects RX3 yX3_usesBySchool yX3_usesBySchool, .code yX3_usesBySchool cX3_usesBySchool 4 (some .int), .fieldLink RX3 31 "ExcuseTariffs$School" "uses" "[I", .methodLink RX4 138 yX3_usersOf, .instanceMethod yX3_usersOf, .selects RX3 yX3_usersOf yX3_usersOf, .code yX3_usersOf cX3_usersOf 4 (some .int), .methodLink RX3 65 yX3_usesOf, .instanceMethod yX3_usesOf, .selects RX3 yX3_usesOf yX3_usesOf, .code yX3_usesOf cX3_usesOf 3 (some .int)] ++ wsX40 ++ wsX30)
def wsX4_pupil_r1 : List Cond := [Cond.fieldLink RX4 10 "ExcuseTariffs" "school" "LExcuseTariffs$School;", Cond.fieldLink RX4 141 "ExcuseTariffs$School" "credits" "[I", Cond.fieldLink RX4 91 "ExcuseTariffs$School" "fines" "[I", Cond.fieldLink RX4 144 "ExcuseTariffs$School" "stamps" "[I", Cond.fieldLink RX4 147 "ExcuseTariffs$School" "refusals" "[I", Cond.fieldLink RX4 150 "ExcuseTariffs$School" "latestKinds" "[I", Cond.fieldLink RX4 156 "ExcuseTariffs$School" "grudges" "[I", Cond.fieldLink RX4 94 "ExcuseTariffs$School" "paid" "[I", Cond.methodLink RX4 88 yX4_isPupil, Cond.static yX4_isPupil, Cond.initialized RX4, Cond.code yX4_isPupil cX4_isPupil 1 (some .boolean), Cond.methodLink RX4 49 yX4_isWithin, Cond.static yX4_isWithin, Cond.code yX4_isWithin cX4_isWithin 3 (some .boolean), Cond.methodLink RX4 153 yX3_usesByPupil, Cond.instanceMethod yX3_usesByPupil, Cond.selects RX3 yX3_usesByPupil yX3_usesByPupil, Cond.initialized RX3, Cond.code yX3_usesByPupil cX3_usesByPupil 4 (some .int), Cond.methodLink RX3 65 yX3_usesOf, Cond.instanceMethod yX3_usesOf, Cond.selects RX3 yX3_usesOf yX3_usesOf, Cond.code yX3_usesOf cX3_usesOf 3 (some .int)]
def wsX4_pupil_r2 : List Cond := [Cond.fieldLink RX3 31 "ExcuseTariffs$School" "uses" "[I", Cond.methodLink RX4 159 yX4_classOf, Cond.static yX4_classOf, Cond.code yX4_classOf cX4_classOf 1 (some .int)]
def wsX4_pupil : List Cond := .code yX4_pupil cX4_pupil 3 (some .int) :: ((wsX4_pupil_r1 ++ wsX4_pupil_r2) ++ wsX40 ++ wsX30)
def wsX4_novelty_r1 : List Cond := [Cond.fieldLink RX4 10 "ExcuseTariffs" "school" "LExcuseTariffs$School;", Cond.methodLink RX4 88 yX4_isPupil, Cond.static yX4_isPupil, Cond.initialized RX4, Cond.code yX4_isPupil cX4_isPupil 1 (some .boolean), Cond.methodLink RX4 49 yX4_isWithin, Cond.static yX4_isWithin, Cond.code yX4_isWithin cX4_isWithin 3 (some .boolean), Cond.methodLink RX4 74 yX3_hasExcuse, Cond.instanceMethod yX3_hasExcuse, Cond.selects RX3 yX3_hasExcuse yX3_hasExcuse, Cond.initialized RX3, Cond.code yX3_hasExcuse cX3_hasExcuse 2 (some .boolean), Cond.fieldLink RX3 18 "ExcuseTariffs$School" "excuses" "I", Cond.methodLink RX4 162 yX3_noveltyFor, Cond.instanceMethod yX3_noveltyFor, Cond.selects RX3 yX3_noveltyFor yX3_noveltyFor, Cond.code yX3_noveltyFor cX3_noveltyFor 4 (some .int), Cond.fieldLink RX3 13 "ExcuseTariffs$School" "settings" "[I", Cond.methodLink RX3 79 Lib.Math.max.name, Cond.static Lib.Math.max.name, Cond.initialized "java/lang/Math", Cond.code Lib.Math.max.name Lib.Math.max.code 2 (some .int), Cond.methodLink RX3 69 yX3_usesBySchool]
def wsX4_novelty_r2 : List Cond := [Cond.instanceMethod yX3_usesBySchool, Cond.selects RX3 yX3_usesBySchool yX3_usesBySchool, Cond.code yX3_usesBySchool cX3_usesBySchool 4 (some .int), Cond.fieldLink RX3 31 "ExcuseTariffs$School" "uses" "[I", Cond.static yX4_classOf, Cond.code yX4_classOf cX4_classOf 1 (some .int), Cond.methodLink RX3 76 yX3_usesByClass, Cond.instanceMethod yX3_usesByClass, Cond.selects RX3 yX3_usesByClass yX3_usesByClass, Cond.code yX3_usesByClass cX3_usesByClass 4 (some .int)]
def wsX4_novelty : List Cond := .code yX4_novelty cX4_novelty 3 (some .int) :: ((wsX4_novelty_r1 ++ wsX4_novelty_r2) ++ wsX40 ++ wsX30)
def wsX4_why_r1 : List Cond := [Cond.fieldLink RX4 10 "ExcuseTariffs" "school" "LExcuseTariffs$School;", Cond.methodLink RX4 81 yX4_offerError, Cond.instanceMethod yX4_offerError, Cond.selects RX4 yX4_offerError yX4_offerError, Cond.initialized RX4, Cond.code yX4_offerError cX4_offerError 5 (some .int), Cond.methodLink RX4 88 yX4_isPupil, Cond.static yX4_isPupil, Cond.code yX4_isPupil cX4_isPupil 1 (some .boolean), Cond.methodLink RX4 49 yX4_isWithin, Cond.static yX4_isWithin, Cond.code yX4_isWithin cX4_isWithin 3 (some .boolean), Cond.methodLink RX4 74 yX3_hasExcuse, Cond.instanceMethod yX3_hasExcuse, Cond.selects RX3 yX3_hasExcuse yX3_hasExcuse, Cond.initialized RX3, Cond.code yX3_hasExcuse cX3_hasExcuse 2 (some .boolean), Cond.fieldLink RX3 18 "ExcuseTariffs$School" "excuses" "I", Cond.methodLink RX4 165 yX3_reasonAgainst, Cond.instanceMethod yX3_reasonAgainst, Cond.selects RX3 yX3_reasonAgainst yX3_reasonAgainst, Cond.code yX3_reasonAgainst cX3_reasonAgainst 5 (some .int), Cond.fieldLink RX3 13 "ExcuseTariffs$School" "settings" "[I", Cond.fieldLink RX3 49 "ExcuseTariffs$School" "latestKinds" "[I"]
def wsX4_why_r2 : List Cond := [Cond.fieldLink RX3 22 "ExcuseTariffs$School" "kinds" "[I", Cond.fieldLink RX3 34 "ExcuseTariffs$School" "credits" "[I", Cond.methodLink RX3 65 yX3_usesOf, Cond.instanceMethod yX3_usesOf, Cond.selects RX3 yX3_usesOf yX3_usesOf, Cond.code yX3_usesOf cX3_usesOf 3 (some .int), Cond.fieldLink RX3 31 "ExcuseTariffs$School" "uses" "[I", Cond.methodLink RX3 94 yX3_weightOf, Cond.instanceMethod yX3_weightOf, Cond.selects RX3 yX3_weightOf yX3_weightOf, Cond.code yX3_weightOf cX3_weightOf 6 (some .int), Cond.fieldLink RX3 25 "ExcuseTariffs$School" "worths" "[I", Cond.fieldLink RX3 52 "ExcuseTariffs$School" "grudges" "[I", Cond.methodLink RX3 88 yX3_noveltyFor, Cond.instanceMethod yX3_noveltyFor, Cond.selects RX3 yX3_noveltyFor yX3_noveltyFor, Cond.code yX3_noveltyFor cX3_noveltyFor 4 (some .int), Cond.methodLink RX3 79 Lib.Math.max.name, Cond.static Lib.Math.max.name, Cond.initialized "java/lang/Math", Cond.code Lib.Math.max.name Lib.Math.max.code 2 (some .int), Cond.methodLink RX3 69 yX3_usesBySchool, Cond.instanceMethod yX3_usesBySchool, Cond.selects RX3 yX3_usesBySchool yX3_usesBySchool]
def wsX4_why_r3 : List Cond := [Cond.code yX3_usesBySchool cX3_usesBySchool 4 (some .int), Cond.static yX4_classOf, Cond.code yX4_classOf cX4_classOf 1 (some .int), Cond.methodLink RX3 76 yX3_usesByClass, Cond.instanceMethod yX3_usesByClass, Cond.selects RX3 yX3_usesByClass yX3_usesByClass, Cond.code yX3_usesByClass cX3_usesByClass 4 (some .int), Cond.methodLink RX3 91 yX3_standingOf, Cond.instanceMethod yX3_standingOf, Cond.selects RX3 yX3_standingOf yX3_standingOf, Cond.code yX3_standingOf cX3_standingOf 3 (some .int)]
def wsX4_why : List Cond := .code yX4_why cX4_why 6 (some .int) :: ((wsX4_why_r1 ++ (wsX4_why_r2 ++ wsX4_why_r3)) ++ wsX40 ++ wsX30)
def wsX4_weight_r1 : List Cond := [Cond.fieldLink RX4 10 "ExcuseTariffs" "school" "LExcuseTariffs$School;", Cond.methodLink RX4 81 yX4_offerError, Cond.instanceMethod yX4_offerError, Cond.selects RX4 yX4_offerError yX4_offerError, Cond.initialized RX4, Cond.code yX4_offerError cX4_offerError 5 (some .int), Cond.methodLink RX4 88 yX4_isPupil, Cond.static yX4_isPupil, Cond.code yX4_isPupil cX4_isPupil 1 (some .boolean), Cond.methodLink RX4 49 yX4_isWithin, Cond.static yX4_isWithin, Cond.code yX4_isWithin cX4_isWithin 3 (some .boolean), Cond.methodLink RX4 74 yX3_hasExcuse, Cond.instanceMethod yX3_hasExcuse, Cond.selects RX3 yX3_hasExcuse yX3_hasExcuse, Cond.initialized RX3, Cond.code yX3_hasExcuse cX3_hasExcuse 2 (some .boolean), Cond.fieldLink RX3 18 "ExcuseTariffs$School" "excuses" "I", Cond.methodLink RX4 168 yX3_weightOf, Cond.instanceMethod yX3_weightOf, Cond.selects RX3 yX3_weightOf yX3_weightOf, Cond.code yX3_weightOf cX3_weightOf 6 (some .int), Cond.fieldLink RX3 25 "ExcuseTariffs$School" "worths" "[I", Cond.fieldLink RX3 13 "ExcuseTariffs$School" "settings" "[I"]
def wsX4_weight_r2 : List Cond := [Cond.fieldLink RX3 52 "ExcuseTariffs$School" "grudges" "[I", Cond.methodLink RX3 88 yX3_noveltyFor, Cond.instanceMethod yX3_noveltyFor, Cond.selects RX3 yX3_noveltyFor yX3_noveltyFor, Cond.code yX3_noveltyFor cX3_noveltyFor 4 (some .int), Cond.methodLink RX3 79 Lib.Math.max.name, Cond.static Lib.Math.max.name, Cond.initialized "java/lang/Math", Cond.code Lib.Math.max.name Lib.Math.max.code 2 (some .int), Cond.methodLink RX3 69 yX3_usesBySchool, Cond.instanceMethod yX3_usesBySchool, Cond.selects RX3 yX3_usesBySchool yX3_usesBySchool, Cond.code yX3_usesBySchool cX3_usesBySchool 4 (some .int), Cond.fieldLink RX3 31 "ExcuseTariffs$School" "uses" "[I", Cond.static yX4_classOf, Cond.code yX4_classOf cX4_classOf 1 (some .int), Cond.methodLink RX3 76 yX3_usesByClass, Cond.instanceMethod yX3_usesByClass, Cond.selects RX3 yX3_usesByClass yX3_usesByClass, Cond.code yX3_usesByClass cX3_usesByClass 4 (some .int), Cond.methodLink RX3 91 yX3_standingOf, Cond.instanceMethod yX3_standingOf, Cond.selects RX3 yX3_standingOf yX3_standingOf, Cond.code yX3_standingOf cX3_standingOf 3 (some .int)]
def wsX4_weight_r3 : List Cond := [Cond.fieldLink RX3 34 "ExcuseTariffs$School" "credits" "[I"]
def wsX4_weight : List Cond := .code yX4_weight cX4_weight 6 (some .int) :: ((wsX4_weight_r1 ++ (wsX4_weight_r2 ++ wsX4_weight_r3)) ++ wsX40 ++ wsX30)
def wsX4_count_r1 : List Cond := [Cond.fieldLink RX4 45 "ExcuseTariffs" "FIRST_SETTINGS" "[I", Cond.fieldLink RX4 10 "ExcuseTariffs" "school" "LExcuseTariffs$School;", Cond.fieldLink RX4 63 "ExcuseTariffs$School" "settings" "[I", Cond.fieldLink RX4 66 "ExcuseTariffs$School" "excuses" "I", Cond.fieldLink RX4 144 "ExcuseTariffs$School" "stamps" "[I", Cond.fieldLink RX4 171 "ExcuseTariffs$School" "refusedFor" "[I", Cond.fieldLink RX4 91 "ExcuseTariffs$School" "fines" "[I", Cond.fieldLink RX4 94 "ExcuseTariffs$School" "paid" "[I", Cond.fieldLink RX4 174 "ExcuseTariffs$School" "termsEnded" "I", Cond.fieldLink RX4 141 "ExcuseTariffs$School" "credits" "[I", Cond.fieldLink RX4 156 "ExcuseTariffs$School" "grudges" "[I", Cond.fieldLink RX4 34 "ExcuseTariffs" "pad" "LExcuseTariffs$Pad;", Cond.fieldLink RX4 114 "ExcuseTariffs$Pad" "length" "I", Cond.fieldLink RX4 19 "ExcuseTariffs" "history" "LExcuseTariffs$History;", Cond.fieldLink RX4 180 "ExcuseTariffs$History" "kept" "I", Cond.methodLink RX4 49 yX4_isWithin, Cond.static yX4_isWithin, Cond.initialized RX4, Cond.code yX4_isWithin cX4_isWithin 3 (some .boolean), Cond.methodLink RX4 100 yX4_sum, Cond.static yX4_sum, Cond.code yX4_sum cX4_sum 3 (some .int), Cond.methodLink RX4 177 yX3_wornOutExcuses, Cond.instanceMethod yX3_wornOutExcuses]
def wsX4_count_r2 : List Cond := [Cond.selects RX3 yX3_wornOutExcuses yX3_wornOutExcuses, Cond.initialized RX3, Cond.code yX3_wornOutExcuses cX3_wornOutExcuses 3 (some .int), Cond.fieldLink RX3 18 "ExcuseTariffs$School" "excuses" "I", Cond.methodLink RX3 84 yX3_isWornOut, Cond.instanceMethod yX3_isWornOut, Cond.selects RX3 yX3_isWornOut yX3_isWornOut, Cond.code yX3_isWornOut cX3_isWornOut 3 (some .boolean), Cond.methodLink RX3 88 yX3_noveltyFor, Cond.instanceMethod yX3_noveltyFor, Cond.selects RX3 yX3_noveltyFor yX3_noveltyFor, Cond.code yX3_noveltyFor cX3_noveltyFor 4 (some .int), Cond.fieldLink RX3 13 "ExcuseTariffs$School" "settings" "[I", Cond.methodLink RX3 79 Lib.Math.max.name, Cond.static Lib.Math.max.name, Cond.initialized "java/lang/Math", Cond.code Lib.Math.max.name Lib.Math.max.code 2 (some .int), Cond.methodLink RX3 69 yX3_usesBySchool, Cond.instanceMethod yX3_usesBySchool, Cond.selects RX3 yX3_usesBySchool yX3_usesBySchool, Cond.code yX3_usesBySchool cX3_usesBySchool 4 (some .int), Cond.fieldLink RX3 31 "ExcuseTariffs$School" "uses" "[I", Cond.static yX4_classOf, Cond.code yX4_classOf cX4_classOf 1 (some .int)]
def wsX4_count_r3 : List Cond := [Cond.methodLink RX3 76 yX3_usesByClass, Cond.instanceMethod yX3_usesByClass, Cond.selects RX3 yX3_usesByClass yX3_usesByClass, Cond.code yX3_usesByClass cX3_usesByClass 4 (some .int)]
def wsX4_count : List Cond := .code yX4_count cX4_count 2 (some .int) :: ((wsX4_count_r1 ++ (wsX4_count_r2 ++ wsX4_count_r3)) ++ wsX40 ++ wsX30 ++ wsX10 ++ wsX00)
def wsX4_bestExcuse_r1 : List Cond := [Cond.fieldLink RX4 10 "ExcuseTariffs" "school" "LExcuseTariffs$School;", Cond.fieldLink RX4 66 "ExcuseTariffs$School" "excuses" "I", Cond.methodLink RX4 88 yX4_isPupil, Cond.static yX4_isPupil, Cond.initialized RX4, Cond.code yX4_isPupil cX4_isPupil 1 (some .boolean), Cond.methodLink RX4 49 yX4_isWithin, Cond.static yX4_isWithin, Cond.code yX4_isWithin cX4_isWithin 3 (some .boolean), Cond.methodLink RX4 165 yX3_reasonAgainst, Cond.instanceMethod yX3_reasonAgainst, Cond.selects RX3 yX3_reasonAgainst yX3_reasonAgainst, Cond.initialized RX3, Cond.code yX3_reasonAgainst cX3_reasonAgainst 5 (some .int), Cond.fieldLink RX3 13 "ExcuseTariffs$School" "settings" "[I", Cond.fieldLink RX3 49 "ExcuseTariffs$School" "latestKinds" "[I", Cond.fieldLink RX3 22 "ExcuseTariffs$School" "kinds" "[I", Cond.fieldLink RX3 34 "ExcuseTariffs$School" "credits" "[I", Cond.methodLink RX3 65 yX3_usesOf, Cond.instanceMethod yX3_usesOf, Cond.selects RX3 yX3_usesOf yX3_usesOf, Cond.code yX3_usesOf cX3_usesOf 3 (some .int), Cond.fieldLink RX3 31 "ExcuseTariffs$School" "uses" "[I", Cond.methodLink RX3 94 yX3_weightOf]
def wsX4_bestExcuse_r2 : List Cond := [Cond.instanceMethod yX3_weightOf, Cond.selects RX3 yX3_weightOf yX3_weightOf, Cond.code yX3_weightOf cX3_weightOf 6 (some .int), Cond.fieldLink RX3 25 "ExcuseTariffs$School" "worths" "[I", Cond.fieldLink RX3 52 "ExcuseTariffs$School" "grudges" "[I", Cond.methodLink RX3 88 yX3_noveltyFor, Cond.instanceMethod yX3_noveltyFor, Cond.selects RX3 yX3_noveltyFor yX3_noveltyFor, Cond.code yX3_noveltyFor cX3_noveltyFor 4 (some .int), Cond.methodLink RX3 79 Lib.Math.max.name, Cond.static Lib.Math.max.name, Cond.initialized "java/lang/Math", Cond.code Lib.Math.max.name Lib.Math.max.code 2 (some .int), Cond.methodLink RX3 69 yX3_usesBySchool, Cond.instanceMethod yX3_usesBySchool, Cond.selects RX3 yX3_usesBySchool yX3_usesBySchool, Cond.code yX3_usesBySchool cX3_usesBySchool 4 (some .int), Cond.static yX4_classOf, Cond.code yX4_classOf cX4_classOf 1 (some .int), Cond.methodLink RX3 76 yX3_usesByClass, Cond.instanceMethod yX3_usesByClass, Cond.selects RX3 yX3_usesByClass yX3_usesByClass, Cond.code yX3_usesByClass cX3_usesByClass 4 (some .int), Cond.methodLink RX3 91 yX3_standingOf]
def wsX4_bestExcuse_r3 : List Cond := [Cond.instanceMethod yX3_standingOf, Cond.selects RX3 yX3_standingOf yX3_standingOf, Cond.code yX3_standingOf cX3_standingOf 3 (some .int), Cond.methodLink RX4 168 yX3_weightOf]
def wsX4_bestExcuse : List Cond := .code yX4_bestExcuse cX4_bestExcuse 7 (some .int) :: ((wsX4_bestExcuse_r1 ++ (wsX4_bestExcuse_r2 ++ wsX4_bestExcuse_r3)) ++ wsX40 ++ wsX30)
def wsX4_bestWitness_r1 : List Cond := [Cond.fieldLink RX4 10 "ExcuseTariffs" "school" "LExcuseTariffs$School;", Cond.fieldLink RX4 141 "ExcuseTariffs$School" "credits" "[I", Cond.methodLink RX4 88 yX4_isPupil, Cond.static yX4_isPupil, Cond.initialized RX4, Cond.code yX4_isPupil cX4_isPupil 1 (some .boolean), Cond.methodLink RX4 49 yX4_isWithin, Cond.static yX4_isWithin, Cond.code yX4_isWithin cX4_isWithin 3 (some .boolean), Cond.methodLink RX4 74 yX3_hasExcuse, Cond.instanceMethod yX3_hasExcuse, Cond.selects RX3 yX3_hasExcuse yX3_hasExcuse, Cond.initialized RX3, Cond.code yX3_hasExcuse cX3_hasExcuse 2 (some .boolean), Cond.fieldLink RX3 18 "ExcuseTariffs$School" "excuses" "I", Cond.methodLink RX4 168 yX3_weightOf, Cond.instanceMethod yX3_weightOf, Cond.selects RX3 yX3_weightOf yX3_weightOf, Cond.code yX3_weightOf cX3_weightOf 6 (some .int), Cond.fieldLink RX3 25 "ExcuseTariffs$School" "worths" "[I", Cond.fieldLink RX3 13 "ExcuseTariffs$School" "settings" "[I", Cond.fieldLink RX3 52 "ExcuseTariffs$School" "grudges" "[I", Cond.methodLink RX3 88 yX3_noveltyFor, Cond.instanceMethod yX3_noveltyFor]
def wsX4_bestWitness_r2 : List Cond := [Cond.selects RX3 yX3_noveltyFor yX3_noveltyFor, Cond.code yX3_noveltyFor cX3_noveltyFor 4 (some .int), Cond.methodLink RX3 79 Lib.Math.max.name, Cond.static Lib.Math.max.name, Cond.initialized "java/lang/Math", Cond.code Lib.Math.max.name Lib.Math.max.code 2 (some .int), Cond.methodLink RX3 69 yX3_usesBySchool, Cond.instanceMethod yX3_usesBySchool, Cond.selects RX3 yX3_usesBySchool yX3_usesBySchool, Cond.code yX3_usesBySchool cX3_usesBySchool 4 (some .int), Cond.fieldLink RX3 31 "ExcuseTariffs$School" "uses" "[I", Cond.static yX4_classOf, Cond.code yX4_classOf cX4_classOf 1 (some .int), Cond.methodLink RX3 76 yX3_usesByClass, Cond.instanceMethod yX3_usesByClass, Cond.selects RX3 yX3_usesByClass yX3_usesByClass, Cond.code yX3_usesByClass cX3_usesByClass 4 (some .int), Cond.methodLink RX3 91 yX3_standingOf, Cond.instanceMethod yX3_standingOf, Cond.selects RX3 yX3_standingOf yX3_standingOf, Cond.code yX3_standingOf cX3_standingOf 3 (some .int), Cond.fieldLink RX3 34 "ExcuseTariffs$School" "credits" "[I"]
def wsX4_bestWitness : List Cond := .code yX4_bestWitness cX4_bestWitness 8 (some .int) :: ((wsX4_bestWitness_r1 ++ wsX4_bestWitness_r2) ++ wsX40 ++ wsX30)
def wsX4_mostMinutes_r1 : List Cond := [Cond.fieldLink RX4 10 "ExcuseTariffs" "school" "LExcuseTariffs$School;", Cond.methodLink RX4 88 yX4_isPupil, Cond.static yX4_isPupil, Cond.initialized RX4, Cond.code yX4_isPupil cX4_isPupil 1 (some .boolean), Cond.methodLink RX4 49 yX4_isWithin, Cond.static yX4_isWithin, Cond.code yX4_isWithin cX4_isWithin 3 (some .boolean), Cond.methodLink RX4 74 yX3_hasExcuse, Cond.instanceMethod yX3_hasExcuse, Cond.selects RX3 yX3_hasExcuse yX3_hasExcuse, Cond.initialized RX3, Cond.code yX3_hasExcuse cX3_hasExcuse 2 (some .boolean), Cond.fieldLink RX3 18 "ExcuseTariffs$School" "excuses" "I", Cond.methodLink RX4 165 yX3_reasonAgainst, Cond.instanceMethod yX3_reasonAgainst, Cond.selects RX3 yX3_reasonAgainst yX3_reasonAgainst, Cond.code yX3_reasonAgainst cX3_reasonAgainst 5 (some .int), Cond.fieldLink RX3 13 "ExcuseTariffs$School" "settings" "[I", Cond.fieldLink RX3 49 "ExcuseTariffs$School" "latestKinds" "[I", Cond.fieldLink RX3 22 "ExcuseTariffs$School" "kinds" "[I", Cond.fieldLink RX3 34 "ExcuseTariffs$School" "credits" "[I", Cond.methodLink RX3 65 yX3_usesOf, Cond.instanceMethod yX3_usesOf]
def wsX4_mostMinutes_r2 : List Cond := [Cond.selects RX3 yX3_usesOf yX3_usesOf, Cond.code yX3_usesOf cX3_usesOf 3 (some .int), Cond.fieldLink RX3 31 "ExcuseTariffs$School" "uses" "[I", Cond.methodLink RX3 94 yX3_weightOf, Cond.instanceMethod yX3_weightOf, Cond.selects RX3 yX3_weightOf yX3_weightOf, Cond.code yX3_weightOf cX3_weightOf 6 (some .int), Cond.fieldLink RX3 25 "ExcuseTariffs$School" "worths" "[I", Cond.fieldLink RX3 52 "ExcuseTariffs$School" "grudges" "[I", Cond.methodLink RX3 88 yX3_noveltyFor, Cond.instanceMethod yX3_noveltyFor, Cond.selects RX3 yX3_noveltyFor yX3_noveltyFor, Cond.code yX3_noveltyFor cX3_noveltyFor 4 (some .int), Cond.methodLink RX3 79 Lib.Math.max.name, Cond.static Lib.Math.max.name, Cond.initialized "java/lang/Math", Cond.code Lib.Math.max.name Lib.Math.max.code 2 (some .int), Cond.methodLink RX3 69 yX3_usesBySchool, Cond.instanceMethod yX3_usesBySchool, Cond.selects RX3 yX3_usesBySchool yX3_usesBySchool, Cond.code yX3_usesBySchool cX3_usesBySchool 4 (some .int), Cond.static yX4_classOf, Cond.code yX4_classOf cX4_classOf 1 (some .int), Cond.methodLink RX3 76 yX3_usesByClass]
def wsX4_mostMinutes_r3 : List Cond := [Cond.instanceMethod yX3_usesByClass, Cond.selects RX3 yX3_usesByClass yX3_usesByClass, Cond.code yX3_usesByClass cX3_usesByClass 4 (some .int), Cond.methodLink RX3 91 yX3_standingOf, Cond.instanceMethod yX3_standingOf, Cond.selects RX3 yX3_standingOf yX3_standingOf, Cond.code yX3_standingOf cX3_standingOf 3 (some .int)]
def wsX4_mostMinutes : List Cond := .code yX4_mostMinutes cX4_mostMinutes 4 (some .int) :: ((wsX4_mostMinutes_r1 ++ (wsX4_mostMinutes_r2 ++ wsX4_mostMinutes_r3)) ++ wsX40 ++ wsX30)
def wsX4_wipe : List Cond := .code yX4_wipe cX4_wipe 2 (some .int) :: ([.fieldLink RX4 34 "ExcuseTariffs" "pad" "LExcuseTariffs$Pad;", .fieldLink RX4 114 "ExcuseTariffs$Pad" "length" "I"] ++ wsX40 ++ wsX10)
def wsX4_undo_r1 : List Cond := [Cond.fieldLink RX4 19 "ExcuseTariffs" "history" "LExcuseTariffs$History;", Cond.fieldLink RX4 180 "ExcuseTariffs$History" "kept" "I", Cond.fieldLink RX4 10 "ExcuseTariffs" "school" "LExcuseTariffs$School;", Cond.methodLink RX4 199 yX0_takeBack, Cond.instanceMethod yX0_takeBack, Cond.selects RX0 yX0_takeBack yX0_takeBack, Cond.initialized RX0, Cond.code yX0_takeBack cX0_takeBack 2 none, Cond.fieldLink RX0 17 "ExcuseTariffs$History" "next" "I", Cond.fieldLink RX0 21 "ExcuseTariffs$History" "kept" "I", Cond.fieldLink RX0 11 "ExcuseTariffs$History" "states" "[LExcuseTariffs$School;", Cond.methodLink RX0 25 yX3_become, Cond.instanceMethod yX3_become, Cond.selects RX3 yX3_become yX3_become, Cond.initialized RX3, Cond.code yX3_become cX3_become 2 none, Cond.fieldLink RX3 13 "ExcuseTariffs$School" "settings" "[I", Cond.fieldLink RX3 18 "ExcuseTariffs$School" "excuses" "I", Cond.fieldLink RX3 22 "ExcuseTariffs$School" "kinds" "[I", Cond.fieldLink RX3 25 "ExcuseTariffs$School" "worths" "[I", Cond.fieldLink RX3 28 "ExcuseTariffs$School" "usesInAllTerms" "[I", Cond.fieldLink RX3 31 "ExcuseTariffs$School" "uses" "[I", Cond.fieldLink RX3 34 "ExcuseTariffs$School" "credits" "[I", Cond.fieldLink RX3 37 "ExcuseTariffs$School" "fines" "[I"]
def wsX4_undo_r2 : List Cond := [Cond.fieldLink RX3 40 "ExcuseTariffs$School" "paid" "[I", Cond.fieldLink RX3 43 "ExcuseTariffs$School" "stamps" "[I", Cond.fieldLink RX3 46 "ExcuseTariffs$School" "refusals" "[I", Cond.fieldLink RX3 49 "ExcuseTariffs$School" "latestKinds" "[I", Cond.fieldLink RX3 52 "ExcuseTariffs$School" "grudges" "[I", Cond.fieldLink RX3 55 "ExcuseTariffs$School" "refusedFor" "[I", Cond.fieldLink RX3 58 "ExcuseTariffs$School" "termsEnded" "I", Cond.static yX4_copy, Cond.initialized RX4, Cond.code yX4_copy cX4_copy 2 none, Cond.methodLink RX4 217 Lib.Math.min.name, Cond.static Lib.Math.min.name, Cond.initialized "java/lang/Math", Cond.code Lib.Math.min.name Lib.Math.min.code 2 (some .int), Cond.methodLink RX4 222 arraycopyName, Cond.native arraycopyName, Cond.static arraycopyName, Cond.initialized "java/lang/System"]
def wsX4_undo : List Cond := .code yX4_undo cX4_undo 1 (some .int) :: ((wsX4_undo_r1 ++ wsX4_undo_r2) ++ wsX40 ++ wsX00 ++ wsX30)
def wsX4_save_r1 : List Cond := [Cond.fieldLink RX4 23 "ExcuseTariffs" "slots" "[LExcuseTariffs$School;", Cond.fieldLink RX4 10 "ExcuseTariffs" "school" "LExcuseTariffs$School;", Cond.fieldLink RX4 27 "ExcuseTariffs" "saved" "[Z", Cond.fieldLink RX4 174 "ExcuseTariffs$School" "termsEnded" "I", Cond.methodLink RX4 49 yX4_isWithin, Cond.static yX4_isWithin, Cond.initialized RX4, Cond.code yX4_isWithin cX4_isWithin 3 (some .boolean), Cond.methodLink RX4 202 yX3_become, Cond.instanceMethod yX3_become, Cond.selects RX3 yX3_become yX3_become, Cond.initialized RX3, Cond.code yX3_become cX3_become 2 none, Cond.fieldLink RX3 13 "ExcuseTariffs$School" "settings" "[I", Cond.fieldLink RX3 18 "ExcuseTariffs$School" "excuses" "I", Cond.fieldLink RX3 22 "ExcuseTariffs$School" "kinds" "[I", Cond.fieldLink RX3 25 "ExcuseTariffs$School" "worths" "[I", Cond.fieldLink RX3 28 "ExcuseTariffs$School" "usesInAllTerms" "[I", Cond.fieldLink RX3 31 "ExcuseTariffs$School" "uses" "[I", Cond.fieldLink RX3 34 "ExcuseTariffs$School" "credits" "[I", Cond.fieldLink RX3 37 "ExcuseTariffs$School" "fines" "[I", Cond.fieldLink RX3 40 "ExcuseTariffs$School" "paid" "[I", Cond.fieldLink RX3 43 "ExcuseTariffs$School" "stamps" "[I", Cond.fieldLink RX3 46 "ExcuseTariffs$School" "refusals" "[I"]
def wsX4_save_r2 : List Cond := [Cond.fieldLink RX3 49 "ExcuseTariffs$School" "latestKinds" "[I", Cond.fieldLink RX3 52 "ExcuseTariffs$School" "grudges" "[I", Cond.fieldLink RX3 55 "ExcuseTariffs$School" "refusedFor" "[I", Cond.fieldLink RX3 58 "ExcuseTariffs$School" "termsEnded" "I", Cond.static yX4_copy, Cond.code yX4_copy cX4_copy 2 none, Cond.methodLink RX4 217 Lib.Math.min.name, Cond.static Lib.Math.min.name, Cond.initialized "java/lang/Math", Cond.code Lib.Math.min.name Lib.Math.min.code 2 (some .int), Cond.methodLink RX4 222 arraycopyName, Cond.native arraycopyName, Cond.static arraycopyName, Cond.initialized "java/lang/System"]
def wsX4_save : List Cond := .code yX4_save cX4_save 2 (some .int) :: ((wsX4_save_r1 ++ wsX4_save_r2) ++ wsX40 ++ wsX30)
def wsX4_restore_r1 : List Cond := [Cond.fieldLink RX4 27 "ExcuseTariffs" "saved" "[Z", Cond.fieldLink RX4 19 "ExcuseTariffs" "history" "LExcuseTariffs$History;", Cond.fieldLink RX4 10 "ExcuseTariffs" "school" "LExcuseTariffs$School;", Cond.fieldLink RX4 23 "ExcuseTariffs" "slots" "[LExcuseTariffs$School;", Cond.fieldLink RX4 174 "ExcuseTariffs$School" "termsEnded" "I", Cond.methodLink RX4 49 yX4_isWithin, Cond.static yX4_isWithin, Cond.initialized RX4, Cond.code yX4_isWithin cX4_isWithin 3 (some .boolean), Cond.methodLink RX4 59 yX0_keep, Cond.instanceMethod yX0_keep, Cond.selects RX0 yX0_keep yX0_keep, Cond.initialized RX0, Cond.code yX0_keep cX0_keep 2 none, Cond.fieldLink RX0 11 "ExcuseTariffs$History" "states" "[LExcuseTariffs$School;", Cond.fieldLink RX0 17 "ExcuseTariffs$History" "next" "I", Cond.fieldLink RX0 21 "ExcuseTariffs$History" "kept" "I", Cond.methodLink RX0 29 Lib.Math.min.name, Cond.static Lib.Math.min.name, Cond.initialized "java/lang/Math", Cond.code Lib.Math.min.name Lib.Math.min.code 2 (some .int), Cond.methodLink RX0 25 yX3_become, Cond.instanceMethod yX3_become, Cond.selects RX3 yX3_become yX3_become]
def wsX4_restore_r2 : List Cond := [Cond.initialized RX3, Cond.code yX3_become cX3_become 2 none, Cond.fieldLink RX3 13 "ExcuseTariffs$School" "settings" "[I", Cond.fieldLink RX3 18 "ExcuseTariffs$School" "excuses" "I", Cond.fieldLink RX3 22 "ExcuseTariffs$School" "kinds" "[I", Cond.fieldLink RX3 25 "ExcuseTariffs$School" "worths" "[I", Cond.fieldLink RX3 28 "ExcuseTariffs$School" "usesInAllTerms" "[I", Cond.fieldLink RX3 31 "ExcuseTariffs$School" "uses" "[I", Cond.fieldLink RX3 34 "ExcuseTariffs$School" "credits" "[I", Cond.fieldLink RX3 37 "ExcuseTariffs$School" "fines" "[I", Cond.fieldLink RX3 40 "ExcuseTariffs$School" "paid" "[I", Cond.fieldLink RX3 43 "ExcuseTariffs$School" "stamps" "[I", Cond.fieldLink RX3 46 "ExcuseTariffs$School" "refusals" "[I", Cond.fieldLink RX3 49 "ExcuseTariffs$School" "latestKinds" "[I", Cond.fieldLink RX3 52 "ExcuseTariffs$School" "grudges" "[I", Cond.fieldLink RX3 55 "ExcuseTariffs$School" "refusedFor" "[I", Cond.fieldLink RX3 58 "ExcuseTariffs$School" "termsEnded" "I", Cond.static yX4_copy, Cond.code yX4_copy cX4_copy 2 none, Cond.methodLink RX4 217 Lib.Math.min.name, Cond.methodLink RX4 222 arraycopyName, Cond.native arraycopyName, Cond.static arraycopyName, Cond.initialized "java/lang/System"]
def wsX4_restore_r3 : List Cond := [Cond.methodLink RX4 202 yX3_become]
def wsX4_restore : List Cond := .code yX4_restore cX4_restore 2 (some .int) :: ((wsX4_restore_r1 ++ (wsX4_restore_r2 ++ wsX4_restore_r3)) ++ wsX40 ++ wsX30 ++ wsX00)
def wsJ9_max_7cf53 : List Cond := .code yJ9_max_7cf53 cJ9_max_7cf53 2 (some .int) :: ([])
def wsJ9_min_7cf53 : List Cond := .code yJ9_min_7cf53 cJ9_min_7cf53 2 (some .int) :: ([])
def wsL_cell : List Cond := .code yL_cell cL_cell 2 (some .int) :: ([.constant RL 7 (431585810), .constant RL 8 (80021), .constant RL 9 (2147483647)])
def wsL_seen_r1 : List Cond := [Cond.constantLong RL 10 (197), Cond.constantLong RL 12 (31), Cond.methodLink RL 14 yX4_count, Cond.instanceMethod yX4_count, Cond.selects RX4 yX4_count yX4_count, Cond.initialized RX4, Cond.code yX4_count cX4_count 2 (some .int), Cond.fieldLink RX4 45 "ExcuseTariffs" "FIRST_SETTINGS" "[I", Cond.fieldLink RX4 10 "ExcuseTariffs" "school" "LExcuseTariffs$School;", Cond.fieldLink RX4 63 "ExcuseTariffs$School" "settings" "[I", Cond.fieldLink RX4 66 "ExcuseTariffs$School" "excuses" "I", Cond.fieldLink RX4 144 "ExcuseTariffs$School" "stamps" "[I", Cond.fieldLink RX4 171 "ExcuseTariffs$School" "refusedFor" "[I", Cond.fieldLink RX4 91 "ExcuseTariffs$School" "fines" "[I", Cond.fieldLink RX4 94 "ExcuseTariffs$School" "paid" "[I", Cond.fieldLink RX4 174 "ExcuseTariffs$School" "termsEnded" "I", Cond.fieldLink RX4 141 "ExcuseTariffs$School" "credits" "[I", Cond.fieldLink RX4 156 "ExcuseTariffs$School" "grudges" "[I", Cond.fieldLink RX4 34 "ExcuseTariffs" "pad" "LExcuseTariffs$Pad;", Cond.fieldLink RX4 114 "ExcuseTariffs$Pad" "length" "I", Cond.fieldLink RX4 19 "ExcuseTariffs" "history" "LExcuseTariffs$History;", Cond.fieldLink RX4 180 "ExcuseTariffs$History" "kept" "I", Cond.methodLink RX4 49 yX4_isWithin, Cond.static yX4_isWithin]
def wsL_seen_r2 : List Cond := [Cond.code yX4_isWithin cX4_isWithin 3 (some .boolean), Cond.methodLink RX4 100 yX4_sum, Cond.static yX4_sum, Cond.code yX4_sum cX4_sum 3 (some .int), Cond.methodLink RX4 177 yX3_wornOutExcuses, Cond.instanceMethod yX3_wornOutExcuses, Cond.selects RX3 yX3_wornOutExcuses yX3_wornOutExcuses, Cond.initialized RX3, Cond.code yX3_wornOutExcuses cX3_wornOutExcuses 3 (some .int), Cond.fieldLink RX3 18 "ExcuseTariffs$School" "excuses" "I", Cond.methodLink RX3 84 yX3_isWornOut, Cond.instanceMethod yX3_isWornOut, Cond.selects RX3 yX3_isWornOut yX3_isWornOut, Cond.code yX3_isWornOut cX3_isWornOut 3 (some .boolean), Cond.methodLink RX3 88 yX3_noveltyFor, Cond.instanceMethod yX3_noveltyFor, Cond.selects RX3 yX3_noveltyFor yX3_noveltyFor, Cond.code yX3_noveltyFor cX3_noveltyFor 4 (some .int), Cond.fieldLink RX3 13 "ExcuseTariffs$School" "settings" "[I", Cond.methodLink RX3 79 Lib.Math.max.name, Cond.static Lib.Math.max.name, Cond.initialized "java/lang/Math", Cond.code Lib.Math.max.name Lib.Math.max.code 2 (some .int), Cond.methodLink RX3 69 yX3_usesBySchool]
def wsL_seen_r3 : List Cond := [Cond.instanceMethod yX3_usesBySchool, Cond.selects RX3 yX3_usesBySchool yX3_usesBySchool, Cond.code yX3_usesBySchool cX3_usesBySchool 4 (some .int), Cond.fieldLink RX3 31 "ExcuseTariffs$School" "uses" "[I", Cond.static yX4_classOf, Cond.code yX4_classOf cX4_classOf 1 (some .int), Cond.methodLink RX3 76 yX3_usesByClass, Cond.instanceMethod yX3_usesByClass, Cond.selects RX3 yX3_usesByClass yX3_usesByClass, Cond.code yX3_usesByClass cX3_usesByClass 4 (some .int), Cond.methodLink RL 20 yX4_pupil, Cond.instanceMethod yX4_pupil, Cond.selects RX4 yX4_pupil yX4_pupil, Cond.code yX4_pupil cX4_pupil 3 (some .int), Cond.fieldLink RX4 147 "ExcuseTariffs$School" "refusals" "[I", Cond.fieldLink RX4 150 "ExcuseTariffs$School" "latestKinds" "[I", Cond.methodLink RX4 88 yX4_isPupil, Cond.static yX4_isPupil, Cond.code yX4_isPupil cX4_isPupil 1 (some .boolean), Cond.methodLink RX4 153 yX3_usesByPupil, Cond.instanceMethod yX3_usesByPupil, Cond.selects RX3 yX3_usesByPupil yX3_usesByPupil, Cond.code yX3_usesByPupil cX3_usesByPupil 4 (some .int), Cond.methodLink RX3 65 yX3_usesOf]
def wsL_seen_r4 : List Cond := [Cond.instanceMethod yX3_usesOf, Cond.selects RX3 yX3_usesOf yX3_usesOf, Cond.code yX3_usesOf cX3_usesOf 3 (some .int), Cond.methodLink RX4 159 yX4_classOf, Cond.methodLink RL 24 yX4_excuse, Cond.instanceMethod yX4_excuse, Cond.selects RX4 yX4_excuse yX4_excuse, Cond.code yX4_excuse cX4_excuse 3 (some .int), Cond.fieldLink RX4 128 "ExcuseTariffs$School" "kinds" "[I", Cond.fieldLink RX4 78 "ExcuseTariffs$School" "worths" "[I", Cond.fieldLink RX4 135 "ExcuseTariffs$School" "usesInAllTerms" "[I", Cond.methodLink RX4 74 yX3_hasExcuse, Cond.instanceMethod yX3_hasExcuse, Cond.selects RX3 yX3_hasExcuse yX3_hasExcuse, Cond.code yX3_hasExcuse cX3_hasExcuse 2 (some .boolean), Cond.methodLink RX4 131 yX3_usesBySchool, Cond.methodLink RX4 138 yX3_usersOf, Cond.instanceMethod yX3_usersOf, Cond.selects RX3 yX3_usersOf yX3_usersOf, Cond.code yX3_usersOf cX3_usersOf 4 (some .int), Cond.methodLink RL 27 yX4_novelty, Cond.instanceMethod yX4_novelty, Cond.selects RX4 yX4_novelty yX4_novelty, Cond.code yX4_novelty cX4_novelty 3 (some .int)]
def wsL_seen_r5 : List Cond := [Cond.methodLink RX4 162 yX3_noveltyFor]
def wsL_seen : List Cond := .code yL_seen cL_seen 4 (some .long) :: ((wsL_seen_r1 ++ (wsL_seen_r2 ++ (wsL_seen_r3 ++ (wsL_seen_r4 ++ wsL_seen_r5)))) ++ wsX40 ++ wsX30 ++ wsX10 ++ wsX00)
def wsL_size : List Cond := .code yL_size cL_size 3 (some .int) :: ([])
def wsL_arePupils_r1 : List Cond := [Cond.methodLink RL 20 yX4_pupil, Cond.instanceMethod yX4_pupil, Cond.selects RX4 yX4_pupil yX4_pupil, Cond.initialized RX4, Cond.code yX4_pupil cX4_pupil 3 (some .int), Cond.fieldLink RX4 10 "ExcuseTariffs" "school" "LExcuseTariffs$School;", Cond.fieldLink RX4 141 "ExcuseTariffs$School" "credits" "[I", Cond.fieldLink RX4 91 "ExcuseTariffs$School" "fines" "[I", Cond.fieldLink RX4 144 "ExcuseTariffs$School" "stamps" "[I", Cond.fieldLink RX4 147 "ExcuseTariffs$School" "refusals" "[I", Cond.fieldLink RX4 150 "ExcuseTariffs$School" "latestKinds" "[I", Cond.fieldLink RX4 156 "ExcuseTariffs$School" "grudges" "[I", Cond.fieldLink RX4 94 "ExcuseTariffs$School" "paid" "[I", Cond.methodLink RX4 88 yX4_isPupil, Cond.static yX4_isPupil, Cond.code yX4_isPupil cX4_isPupil 1 (some .boolean), Cond.methodLink RX4 49 yX4_isWithin, Cond.static yX4_isWithin, Cond.code yX4_isWithin cX4_isWithin 3 (some .boolean), Cond.methodLink RX4 153 yX3_usesByPupil, Cond.instanceMethod yX3_usesByPupil, Cond.selects RX3 yX3_usesByPupil yX3_usesByPupil, Cond.initialized RX3, Cond.code yX3_usesByPupil cX3_usesByPupil 4 (some .int)]
def wsL_arePupils_r2 : List Cond := [Cond.methodLink RX3 65 yX3_usesOf, Cond.instanceMethod yX3_usesOf, Cond.selects RX3 yX3_usesOf yX3_usesOf, Cond.code yX3_usesOf cX3_usesOf 3 (some .int), Cond.fieldLink RX3 31 "ExcuseTariffs$School" "uses" "[I", Cond.methodLink RX4 159 yX4_classOf, Cond.static yX4_classOf, Cond.code yX4_classOf cX4_classOf 1 (some .int), Cond.methodLink RL 14 yX4_count, Cond.instanceMethod yX4_count, Cond.selects RX4 yX4_count yX4_count, Cond.code yX4_count cX4_count 2 (some .int), Cond.fieldLink RX4 45 "ExcuseTariffs" "FIRST_SETTINGS" "[I", Cond.fieldLink RX4 63 "ExcuseTariffs$School" "settings" "[I", Cond.fieldLink RX4 66 "ExcuseTariffs$School" "excuses" "I", Cond.fieldLink RX4 171 "ExcuseTariffs$School" "refusedFor" "[I", Cond.fieldLink RX4 174 "ExcuseTariffs$School" "termsEnded" "I", Cond.fieldLink RX4 34 "ExcuseTariffs" "pad" "LExcuseTariffs$Pad;", Cond.fieldLink RX4 114 "ExcuseTariffs$Pad" "length" "I", Cond.fieldLink RX4 19 "ExcuseTariffs" "history" "LExcuseTariffs$History;", Cond.fieldLink RX4 180 "ExcuseTariffs$History" "kept" "I", Cond.methodLink RX4 100 yX4_sum, Cond.static yX4_sum, Cond.code yX4_sum cX4_sum 3 (some .int)]
def wsL_arePupils_r3 : List Cond := [Cond.methodLink RX4 177 yX3_wornOutExcuses, Cond.instanceMethod yX3_wornOutExcuses, Cond.selects RX3 yX3_wornOutExcuses yX3_wornOutExcuses, Cond.code yX3_wornOutExcuses cX3_wornOutExcuses 3 (some .int), Cond.fieldLink RX3 18 "ExcuseTariffs$School" "excuses" "I", Cond.methodLink RX3 84 yX3_isWornOut, Cond.instanceMethod yX3_isWornOut, Cond.selects RX3 yX3_isWornOut yX3_isWornOut, Cond.code yX3_isWornOut cX3_isWornOut 3 (some .boolean), Cond.methodLink RX3 88 yX3_noveltyFor, Cond.instanceMethod yX3_noveltyFor, Cond.selects RX3 yX3_noveltyFor yX3_noveltyFor, Cond.code yX3_noveltyFor cX3_noveltyFor 4 (some .int), Cond.fieldLink RX3 13 "ExcuseTariffs$School" "settings" "[I", Cond.methodLink RX3 79 Lib.Math.max.name, Cond.static Lib.Math.max.name, Cond.initialized "java/lang/Math", Cond.code Lib.Math.max.name Lib.Math.max.code 2 (some .int), Cond.methodLink RX3 69 yX3_usesBySchool, Cond.instanceMethod yX3_usesBySchool, Cond.selects RX3 yX3_usesBySchool yX3_usesBySchool, Cond.code yX3_usesBySchool cX3_usesBySchool 4 (some .int), Cond.methodLink RX3 76 yX3_usesByClass, Cond.instanceMethod yX3_usesByClass]
def wsL_arePupils_r4 : List Cond := [Cond.selects RX3 yX3_usesByClass yX3_usesByClass, Cond.code yX3_usesByClass cX3_usesByClass 4 (some .int), Cond.methodLink RL 24 yX4_excuse, Cond.instanceMethod yX4_excuse, Cond.selects RX4 yX4_excuse yX4_excuse, Cond.code yX4_excuse cX4_excuse 3 (some .int), Cond.fieldLink RX4 128 "ExcuseTariffs$School" "kinds" "[I", Cond.fieldLink RX4 78 "ExcuseTariffs$School" "worths" "[I", Cond.fieldLink RX4 135 "ExcuseTariffs$School" "usesInAllTerms" "[I", Cond.methodLink RX4 74 yX3_hasExcuse, Cond.instanceMethod yX3_hasExcuse, Cond.selects RX3 yX3_hasExcuse yX3_hasExcuse, Cond.code yX3_hasExcuse cX3_hasExcuse 2 (some .boolean), Cond.methodLink RX4 131 yX3_usesBySchool, Cond.methodLink RX4 138 yX3_usersOf, Cond.instanceMethod yX3_usersOf, Cond.selects RX3 yX3_usersOf yX3_usersOf, Cond.code yX3_usersOf cX3_usersOf 4 (some .int), Cond.methodLink RL 27 yX4_novelty, Cond.instanceMethod yX4_novelty, Cond.selects RX4 yX4_novelty yX4_novelty, Cond.code yX4_novelty cX4_novelty 3 (some .int), Cond.methodLink RX4 162 yX3_noveltyFor, Cond.methodLink RL 32 yL_size]
def wsL_arePupils_r5 : List Cond := [Cond.static yL_size, Cond.initialized RL, Cond.code yL_size cL_size 3 (some .int)]
def wsL_arePupils : List Cond := .code yL_arePupils cL_arePupils 17 (some .boolean) :: ((wsL_arePupils_r1 ++ (wsL_arePupils_r2 ++ (wsL_arePupils_r3 ++ (wsL_arePupils_r4 ++ wsL_arePupils_r5)))) ++ wsX40 ++ wsX30 ++ wsX10 ++ wsX00)
def wsL_refusesAny_r1 : List Cond := [Cond.methodLink RL 14 yX4_count, Cond.instanceMethod yX4_count, Cond.selects RX4 yX4_count yX4_count, Cond.initialized RX4, Cond.code yX4_count cX4_count 2 (some .int), Cond.fieldLink RX4 45 "ExcuseTariffs" "FIRST_SETTINGS" "[I", Cond.fieldLink RX4 10 "ExcuseTariffs" "school" "LExcuseTariffs$School;", Cond.fieldLink RX4 63 "ExcuseTariffs$School" "settings" "[I", Cond.fieldLink RX4 66 "ExcuseTariffs$School" "excuses" "I", Cond.fieldLink RX4 144 "ExcuseTariffs$School" "stamps" "[I", Cond.fieldLink RX4 171 "ExcuseTariffs$School" "refusedFor" "[I", Cond.fieldLink RX4 91 "ExcuseTariffs$School" "fines" "[I", Cond.fieldLink RX4 94 "ExcuseTariffs$School" "paid" "[I", Cond.fieldLink RX4 174 "ExcuseTariffs$School" "termsEnded" "I", Cond.fieldLink RX4 141 "ExcuseTariffs$School" "credits" "[I", Cond.fieldLink RX4 156 "ExcuseTariffs$School" "grudges" "[I", Cond.fieldLink RX4 34 "ExcuseTariffs" "pad" "LExcuseTariffs$Pad;", Cond.fieldLink RX4 114 "ExcuseTariffs$Pad" "length" "I", Cond.fieldLink RX4 19 "ExcuseTariffs" "history" "LExcuseTariffs$History;", Cond.fieldLink RX4 180 "ExcuseTariffs$History" "kept" "I", Cond.methodLink RX4 49 yX4_isWithin, Cond.static yX4_isWithin, Cond.code yX4_isWithin cX4_isWithin 3 (some .boolean), Cond.methodLink RX4 100 yX4_sum]
def wsL_refusesAny_r2 : List Cond := [Cond.static yX4_sum, Cond.code yX4_sum cX4_sum 3 (some .int), Cond.methodLink RX4 177 yX3_wornOutExcuses, Cond.instanceMethod yX3_wornOutExcuses, Cond.selects RX3 yX3_wornOutExcuses yX3_wornOutExcuses, Cond.initialized RX3, Cond.code yX3_wornOutExcuses cX3_wornOutExcuses 3 (some .int), Cond.fieldLink RX3 18 "ExcuseTariffs$School" "excuses" "I", Cond.methodLink RX3 84 yX3_isWornOut, Cond.instanceMethod yX3_isWornOut, Cond.selects RX3 yX3_isWornOut yX3_isWornOut, Cond.code yX3_isWornOut cX3_isWornOut 3 (some .boolean), Cond.methodLink RX3 88 yX3_noveltyFor, Cond.instanceMethod yX3_noveltyFor, Cond.selects RX3 yX3_noveltyFor yX3_noveltyFor, Cond.code yX3_noveltyFor cX3_noveltyFor 4 (some .int), Cond.fieldLink RX3 13 "ExcuseTariffs$School" "settings" "[I", Cond.methodLink RX3 79 Lib.Math.max.name, Cond.static Lib.Math.max.name, Cond.initialized "java/lang/Math", Cond.code Lib.Math.max.name Lib.Math.max.code 2 (some .int), Cond.methodLink RX3 69 yX3_usesBySchool, Cond.instanceMethod yX3_usesBySchool, Cond.selects RX3 yX3_usesBySchool yX3_usesBySchool]
def wsL_refusesAny_r3 : List Cond := [Cond.code yX3_usesBySchool cX3_usesBySchool 4 (some .int), Cond.fieldLink RX3 31 "ExcuseTariffs$School" "uses" "[I", Cond.static yX4_classOf, Cond.code yX4_classOf cX4_classOf 1 (some .int), Cond.methodLink RX3 76 yX3_usesByClass, Cond.instanceMethod yX3_usesByClass, Cond.selects RX3 yX3_usesByClass yX3_usesByClass, Cond.code yX3_usesByClass cX3_usesByClass 4 (some .int), Cond.methodLink RL 35 yX4_set, Cond.instanceMethod yX4_set, Cond.selects RX4 yX4_set yX4_set, Cond.code yX4_set cX4_set 4 (some .int), Cond.fieldLink RX4 53 "ExcuseTariffs" "LEAST_SETTINGS" "[I", Cond.fieldLink RX4 56 "ExcuseTariffs" "MOST_SETTINGS" "[I", Cond.methodLink RX4 59 yX0_keep, Cond.instanceMethod yX0_keep, Cond.selects RX0 yX0_keep yX0_keep, Cond.initialized RX0, Cond.code yX0_keep cX0_keep 2 none, Cond.fieldLink RX0 11 "ExcuseTariffs$History" "states" "[LExcuseTariffs$School;", Cond.fieldLink RX0 17 "ExcuseTariffs$History" "next" "I", Cond.fieldLink RX0 21 "ExcuseTariffs$History" "kept" "I", Cond.methodLink RX0 29 Lib.Math.min.name, Cond.static Lib.Math.min.name]
def wsL_refusesAny_r4 : List Cond := [Cond.code Lib.Math.min.name Lib.Math.min.code 2 (some .int), Cond.methodLink RX0 25 yX3_become, Cond.instanceMethod yX3_become, Cond.selects RX3 yX3_become yX3_become, Cond.code yX3_become cX3_become 2 none, Cond.fieldLink RX3 22 "ExcuseTariffs$School" "kinds" "[I", Cond.fieldLink RX3 25 "ExcuseTariffs$School" "worths" "[I", Cond.fieldLink RX3 28 "ExcuseTariffs$School" "usesInAllTerms" "[I", Cond.fieldLink RX3 34 "ExcuseTariffs$School" "credits" "[I", Cond.fieldLink RX3 37 "ExcuseTariffs$School" "fines" "[I", Cond.fieldLink RX3 40 "ExcuseTariffs$School" "paid" "[I", Cond.fieldLink RX3 43 "ExcuseTariffs$School" "stamps" "[I", Cond.fieldLink RX3 46 "ExcuseTariffs$School" "refusals" "[I", Cond.fieldLink RX3 49 "ExcuseTariffs$School" "latestKinds" "[I", Cond.fieldLink RX3 52 "ExcuseTariffs$School" "grudges" "[I", Cond.fieldLink RX3 55 "ExcuseTariffs$School" "refusedFor" "[I", Cond.fieldLink RX3 58 "ExcuseTariffs$School" "termsEnded" "I", Cond.static yX4_copy, Cond.code yX4_copy cX4_copy 2 none, Cond.methodLink RX4 217 Lib.Math.min.name, Cond.methodLink RX4 222 arraycopyName, Cond.native arraycopyName, Cond.static arraycopyName, Cond.initialized "java/lang/System"]
def wsL_refusesAny_r5 : List Cond := [Cond.methodLink RL 38 yX4_add, Cond.instanceMethod yX4_add, Cond.selects RX4 yX4_add yX4_add, Cond.code yX4_add cX4_add 3 (some .int), Cond.methodLink RX4 70 yX3_addExcuse, Cond.instanceMethod yX3_addExcuse, Cond.selects RX3 yX3_addExcuse yX3_addExcuse, Cond.code yX3_addExcuse cX3_addExcuse 3 (some .int), Cond.methodLink RL 41 yX4_worth, Cond.instanceMethod yX4_worth, Cond.selects RX4 yX4_worth yX4_worth, Cond.code yX4_worth cX4_worth 4 (some .int), Cond.fieldLink RX4 78 "ExcuseTariffs$School" "worths" "[I", Cond.methodLink RX4 74 yX3_hasExcuse, Cond.instanceMethod yX3_hasExcuse, Cond.selects RX3 yX3_hasExcuse yX3_hasExcuse, Cond.code yX3_hasExcuse cX3_hasExcuse 2 (some .boolean), Cond.methodLink RL 44 yX4_offer, Cond.instanceMethod yX4_offer, Cond.selects RX4 yX4_offer yX4_offer, Cond.code yX4_offer cX4_offer 6 (some .int), Cond.methodLink RX4 81 yX4_offerError, Cond.instanceMethod yX4_offerError, Cond.selects RX4 yX4_offerError yX4_offerError]
def wsL_refusesAny_r6 : List Cond := [Cond.code yX4_offerError cX4_offerError 5 (some .int), Cond.methodLink RX4 88 yX4_isPupil, Cond.static yX4_isPupil, Cond.code yX4_isPupil cX4_isPupil 1 (some .boolean), Cond.methodLink RX4 85 yX3_takeOffer, Cond.instanceMethod yX3_takeOffer, Cond.selects RX3 yX3_takeOffer yX3_takeOffer, Cond.code yX3_takeOffer cX3_takeOffer 6 (some .int), Cond.methodLink RX3 98 yX3_reasonAgainst, Cond.instanceMethod yX3_reasonAgainst, Cond.selects RX3 yX3_reasonAgainst yX3_reasonAgainst, Cond.code yX3_reasonAgainst cX3_reasonAgainst 5 (some .int), Cond.methodLink RX3 65 yX3_usesOf, Cond.instanceMethod yX3_usesOf, Cond.selects RX3 yX3_usesOf yX3_usesOf, Cond.code yX3_usesOf cX3_usesOf 3 (some .int), Cond.methodLink RX3 94 yX3_weightOf, Cond.instanceMethod yX3_weightOf, Cond.selects RX3 yX3_weightOf yX3_weightOf, Cond.code yX3_weightOf cX3_weightOf 6 (some .int), Cond.methodLink RX3 91 yX3_standingOf, Cond.instanceMethod yX3_standingOf, Cond.selects RX3 yX3_standingOf yX3_standingOf, Cond.code yX3_standingOf cX3_standingOf 3 (some .int)]
def wsL_refusesAny_r7 : List Cond := [Cond.methodLink RX3 101 yX3_stamp, Cond.instanceMethod yX3_stamp, Cond.selects RX3 yX3_stamp yX3_stamp, Cond.code yX3_stamp cX3_stamp 5 none, Cond.methodLink RX3 108 yX3_takeCredit, Cond.instanceMethod yX3_takeCredit, Cond.selects RX3 yX3_takeCredit yX3_takeCredit, Cond.code yX3_takeCredit cX3_takeCredit 3 none, Cond.methodLink RX3 112 yX3_angerMasterOf, Cond.instanceMethod yX3_angerMasterOf, Cond.selects RX3 yX3_angerMasterOf yX3_angerMasterOf, Cond.code yX3_angerMasterOf cX3_angerMasterOf 3 none, Cond.methodLink RX3 116 Lib.Math.min.name, Cond.methodLink RX3 105 yX3_refuse, Cond.instanceMethod yX3_refuse, Cond.selects RX3 yX3_refuse yX3_refuse, Cond.code yX3_refuse cX3_refuse 5 none, Cond.methodLink RL 48 yX4_pay, Cond.instanceMethod yX4_pay, Cond.selects RX4 yX4_pay yX4_pay, Cond.code yX4_pay cX4_pay 3 (some .int), Cond.methodLink RL 20 yX4_pupil, Cond.instanceMethod yX4_pupil, Cond.selects RX4 yX4_pupil yX4_pupil]
def wsL_refusesAny_r8 : List Cond := [Cond.code yX4_pupil cX4_pupil 3 (some .int), Cond.fieldLink RX4 147 "ExcuseTariffs$School" "refusals" "[I", Cond.fieldLink RX4 150 "ExcuseTariffs$School" "latestKinds" "[I", Cond.methodLink RX4 153 yX3_usesByPupil, Cond.instanceMethod yX3_usesByPupil, Cond.selects RX3 yX3_usesByPupil yX3_usesByPupil, Cond.code yX3_usesByPupil cX3_usesByPupil 4 (some .int), Cond.methodLink RX4 159 yX4_classOf, Cond.methodLink RL 24 yX4_excuse, Cond.instanceMethod yX4_excuse, Cond.selects RX4 yX4_excuse yX4_excuse, Cond.code yX4_excuse cX4_excuse 3 (some .int), Cond.fieldLink RX4 128 "ExcuseTariffs$School" "kinds" "[I", Cond.fieldLink RX4 135 "ExcuseTariffs$School" "usesInAllTerms" "[I", Cond.methodLink RX4 131 yX3_usesBySchool, Cond.methodLink RX4 138 yX3_usersOf, Cond.instanceMethod yX3_usersOf, Cond.selects RX3 yX3_usersOf yX3_usersOf, Cond.code yX3_usersOf cX3_usersOf 4 (some .int), Cond.methodLink RL 27 yX4_novelty, Cond.instanceMethod yX4_novelty, Cond.selects RX4 yX4_novelty yX4_novelty, Cond.code yX4_novelty cX4_novelty 3 (some .int), Cond.methodLink RX4 162 yX3_noveltyFor]
def wsL_refusesAny_r9 : List Cond := [Cond.methodLink RL 51 yX4_why, Cond.instanceMethod yX4_why, Cond.selects RX4 yX4_why yX4_why, Cond.code yX4_why cX4_why 6 (some .int), Cond.methodLink RX4 165 yX3_reasonAgainst, Cond.methodLink RL 54 yX4_weight, Cond.instanceMethod yX4_weight, Cond.selects RX4 yX4_weight yX4_weight, Cond.code yX4_weight cX4_weight 6 (some .int), Cond.methodLink RX4 168 yX3_weightOf, Cond.methodLink RL 57 yX4_bestWitness, Cond.instanceMethod yX4_bestWitness, Cond.selects RX4 yX4_bestWitness yX4_bestWitness, Cond.code yX4_bestWitness cX4_bestWitness 8 (some .int), Cond.methodLink RL 61 yX4_bestExcuse, Cond.instanceMethod yX4_bestExcuse, Cond.selects RX4 yX4_bestExcuse yX4_bestExcuse, Cond.code yX4_bestExcuse cX4_bestExcuse 7 (some .int), Cond.methodLink RL 64 yX4_mostMinutes, Cond.instanceMethod yX4_mostMinutes, Cond.selects RX4 yX4_mostMinutes yX4_mostMinutes, Cond.code yX4_mostMinutes cX4_mostMinutes 4 (some .int), Cond.methodLink RL 67 yX4_save, Cond.instanceMethod yX4_save]
def wsL_refusesAny_r10 : List Cond := [Cond.selects RX4 yX4_save yX4_save, Cond.code yX4_save cX4_save 2 (some .int), Cond.fieldLink RX4 23 "ExcuseTariffs" "slots" "[LExcuseTariffs$School;", Cond.fieldLink RX4 27 "ExcuseTariffs" "saved" "[Z", Cond.methodLink RX4 202 yX3_become, Cond.methodLink RL 70 yX4_restore, Cond.instanceMethod yX4_restore, Cond.selects RX4 yX4_restore yX4_restore, Cond.code yX4_restore cX4_restore 2 (some .int), Cond.methodLink RL 73 yX4_wipe, Cond.instanceMethod yX4_wipe, Cond.selects RX4 yX4_wipe yX4_wipe, Cond.code yX4_wipe cX4_wipe 2 (some .int), Cond.methodLink RL 77 yX4_read, Cond.instanceMethod yX4_read, Cond.selects RX4 yX4_read yX4_read, Cond.code yX4_read cX4_read 3 (some .int), Cond.fieldLink RX4 41 "ExcuseTariffs" "reader" "LExcuseTariffs$Reader;", Cond.fieldLink RX4 117 "ExcuseTariffs$Pad" "characters" "[C", Cond.methodLink RX4 107 yX4_fault, Cond.instanceMethod yX4_fault, Cond.selects RX4 yX4_fault yX4_fault, Cond.code yX4_fault cX4_fault 2 (some .int), Cond.methodLink RX4 111 yX2_begin]
def wsL_refusesAny_r11 : List Cond := [Cond.instanceMethod yX2_begin, Cond.selects RX2 yX2_begin yX2_begin, Cond.initialized RX2, Cond.code yX2_begin cX2_begin 1 none, Cond.fieldLink RX2 11 "ExcuseTariffs$Reader" "place" "I", Cond.fieldLink RX2 24 "ExcuseTariffs$Reader" "witness" "I", Cond.methodLink RX4 124 yX2_takes, Cond.instanceMethod yX2_takes, Cond.selects RX2 yX2_takes yX2_takes, Cond.code yX2_takes cX2_takes 2 (some .boolean), Cond.fieldLink RX2 21 "ExcuseTariffs$Reader" "minutes" "I", Cond.methodLink RX2 27 yX2_takesPupil, Cond.instanceMethod yX2_takesPupil, Cond.selects RX2 yX2_takesPupil yX2_takesPupil, Cond.code yX2_takesPupil cX2_takesPupil 2 (some .boolean), Cond.fieldLink RX2 15 "ExcuseTariffs$Reader" "pupil" "I", Cond.methodLink RX2 51 yX2_isDigit, Cond.static yX2_isDigit, Cond.code yX2_isDigit cX2_isDigit 1 (some .boolean), Cond.methodLink RX2 34 yX2_goesOn, Cond.instanceMethod yX2_goesOn, Cond.selects RX2 yX2_goesOn yX2_goesOn, Cond.code yX2_goesOn cX2_goesOn 3 (some .boolean), Cond.methodLink RX2 31 yX2_takesExcuse]
def wsL_refusesAny_r12 : List Cond := [Cond.instanceMethod yX2_takesExcuse, Cond.selects RX2 yX2_takesExcuse yX2_takesExcuse, Cond.code yX2_takesExcuse cX2_takesExcuse 3 (some .boolean), Cond.fieldLink RX2 18 "ExcuseTariffs$Reader" "excuse" "I", Cond.methodLink RX2 38 yX2_takesMinutes, Cond.instanceMethod yX2_takesMinutes, Cond.selects RX2 yX2_takesMinutes yX2_takesMinutes, Cond.code yX2_takesMinutes cX2_takesMinutes 4 (some .boolean), Cond.methodLink RX2 42 yX2_takesAfterMinutes, Cond.instanceMethod yX2_takesAfterMinutes, Cond.selects RX2 yX2_takesAfterMinutes yX2_takesAfterMinutes, Cond.code yX2_takesAfterMinutes cX2_takesAfterMinutes 2 (some .boolean), Cond.methodLink RX2 48 yX2_takesComma, Cond.instanceMethod yX2_takesComma, Cond.selects RX2 yX2_takesComma yX2_takesComma, Cond.code yX2_takesComma cX2_takesComma 2 (some .boolean), Cond.methodLink RX2 45 yX2_takesWitness, Cond.instanceMethod yX2_takesWitness, Cond.selects RX2 yX2_takesWitness yX2_takesWitness, Cond.code yX2_takesWitness cX2_takesWitness 3 (some .boolean), Cond.methodLink RX4 195 yX2_canEnd, Cond.instanceMethod yX2_canEnd, Cond.selects RX2 yX2_canEnd yX2_canEnd, Cond.code yX2_canEnd cX2_canEnd 1 (some .boolean)]
def wsL_refusesAny_r13 : List Cond := [Cond.methodLink RX4 121 yX4_stampsForWhatWasRead, Cond.instanceMethod yX4_stampsForWhatWasRead, Cond.selects RX4 yX4_stampsForWhatWasRead yX4_stampsForWhatWasRead, Cond.code yX4_stampsForWhatWasRead cX4_stampsForWhatWasRead 2 (some .int), Cond.fieldLink RX4 205 "ExcuseTariffs$Reader" "excuse" "I", Cond.fieldLink RX4 208 "ExcuseTariffs$Reader" "pupil" "I", Cond.fieldLink RX4 211 "ExcuseTariffs$Reader" "witness" "I", Cond.fieldLink RX4 214 "ExcuseTariffs$Reader" "minutes" "I", Cond.methodLink RL 80 yX4_fault]
def wsL_refusesAny : List Cond := .code yL_refusesAny cL_refusesAny 8 (some .boolean) :: ((wsL_refusesAny_r1 ++ (wsL_refusesAny_r2 ++ (wsL_refusesAny_r3 ++ (wsL_refusesAny_r4 ++ (wsL_refusesAny_r5 ++ (wsL_refusesAny_r6 ++ (wsL_refusesAny_r7 ++ (wsL_refusesAny_r8 ++ (wsL_refusesAny_r9 ++ (wsL_refusesAny_r10 ++ (wsL_refusesAny_r11 ++ (wsL_refusesAny_r12 ++ wsL_refusesAny_r13)))))))))))) ++ wsX40 ++ wsX30 ++ wsX10 ++ wsX00 ++ wsX20)
def wsL_refuses_r1 : List Cond := [Cond.methodLink RL 83 yL_seen, Cond.static yL_seen, Cond.initialized RL, Cond.code yL_seen cL_seen 4 (some .long), Cond.constantLong RL 10 (197), Cond.constantLong RL 12 (31), Cond.methodLink RL 14 yX4_count, Cond.instanceMethod yX4_count, Cond.selects RX4 yX4_count yX4_count, Cond.initialized RX4, Cond.code yX4_count cX4_count 2 (some .int), Cond.fieldLink RX4 45 "ExcuseTariffs" "FIRST_SETTINGS" "[I", Cond.fieldLink RX4 10 "ExcuseTariffs" "school" "LExcuseTariffs$School;", Cond.fieldLink RX4 63 "ExcuseTariffs$School" "settings" "[I", Cond.fieldLink RX4 66 "ExcuseTariffs$School" "excuses" "I", Cond.fieldLink RX4 144 "ExcuseTariffs$School" "stamps" "[I", Cond.fieldLink RX4 171 "ExcuseTariffs$School" "refusedFor" "[I", Cond.fieldLink RX4 91 "ExcuseTariffs$School" "fines" "[I", Cond.fieldLink RX4 94 "ExcuseTariffs$School" "paid" "[I", Cond.fieldLink RX4 174 "ExcuseTariffs$School" "termsEnded" "I", Cond.fieldLink RX4 141 "ExcuseTariffs$School" "credits" "[I", Cond.fieldLink RX4 156 "ExcuseTariffs$School" "grudges" "[I", Cond.fieldLink RX4 34 "ExcuseTariffs" "pad" "LExcuseTariffs$Pad;", Cond.fieldLink RX4 114 "ExcuseTariffs$Pad" "length" "I"]
def wsL_refuses_r2 : List Cond := [Cond.fieldLink RX4 19 "ExcuseTariffs" "history" "LExcuseTariffs$History;", Cond.fieldLink RX4 180 "ExcuseTariffs$History" "kept" "I", Cond.methodLink RX4 49 yX4_isWithin, Cond.static yX4_isWithin, Cond.code yX4_isWithin cX4_isWithin 3 (some .boolean), Cond.methodLink RX4 100 yX4_sum, Cond.static yX4_sum, Cond.code yX4_sum cX4_sum 3 (some .int), Cond.methodLink RX4 177 yX3_wornOutExcuses, Cond.instanceMethod yX3_wornOutExcuses, Cond.selects RX3 yX3_wornOutExcuses yX3_wornOutExcuses, Cond.initialized RX3, Cond.code yX3_wornOutExcuses cX3_wornOutExcuses 3 (some .int), Cond.fieldLink RX3 18 "ExcuseTariffs$School" "excuses" "I", Cond.methodLink RX3 84 yX3_isWornOut, Cond.instanceMethod yX3_isWornOut, Cond.selects RX3 yX3_isWornOut yX3_isWornOut, Cond.code yX3_isWornOut cX3_isWornOut 3 (some .boolean), Cond.methodLink RX3 88 yX3_noveltyFor, Cond.instanceMethod yX3_noveltyFor, Cond.selects RX3 yX3_noveltyFor yX3_noveltyFor, Cond.code yX3_noveltyFor cX3_noveltyFor 4 (some .int), Cond.fieldLink RX3 13 "ExcuseTariffs$School" "settings" "[I", Cond.methodLink RX3 79 Lib.Math.max.name]
def wsL_refuses_r3 : List Cond := [Cond.static Lib.Math.max.name, Cond.initialized "java/lang/Math", Cond.code Lib.Math.max.name Lib.Math.max.code 2 (some .int), Cond.methodLink RX3 69 yX3_usesBySchool, Cond.instanceMethod yX3_usesBySchool, Cond.selects RX3 yX3_usesBySchool yX3_usesBySchool, Cond.code yX3_usesBySchool cX3_usesBySchool 4 (some .int), Cond.fieldLink RX3 31 "ExcuseTariffs$School" "uses" "[I", Cond.static yX4_classOf, Cond.code yX4_classOf cX4_classOf 1 (some .int), Cond.methodLink RX3 76 yX3_usesByClass, Cond.instanceMethod yX3_usesByClass, Cond.selects RX3 yX3_usesByClass yX3_usesByClass, Cond.code yX3_usesByClass cX3_usesByClass 4 (some .int), Cond.methodLink RL 20 yX4_pupil, Cond.instanceMethod yX4_pupil, Cond.selects RX4 yX4_pupil yX4_pupil, Cond.code yX4_pupil cX4_pupil 3 (some .int), Cond.fieldLink RX4 147 "ExcuseTariffs$School" "refusals" "[I", Cond.fieldLink RX4 150 "ExcuseTariffs$School" "latestKinds" "[I", Cond.methodLink RX4 88 yX4_isPupil, Cond.static yX4_isPupil, Cond.code yX4_isPupil cX4_isPupil 1 (some .boolean), Cond.methodLink RX4 153 yX3_usesByPupil]
def wsL_refuses_r4 : List Cond := [Cond.instanceMethod yX3_usesByPupil, Cond.selects RX3 yX3_usesByPupil yX3_usesByPupil, Cond.code yX3_usesByPupil cX3_usesByPupil 4 (some .int), Cond.methodLink RX3 65 yX3_usesOf, Cond.instanceMethod yX3_usesOf, Cond.selects RX3 yX3_usesOf yX3_usesOf, Cond.code yX3_usesOf cX3_usesOf 3 (some .int), Cond.methodLink RX4 159 yX4_classOf, Cond.methodLink RL 24 yX4_excuse, Cond.instanceMethod yX4_excuse, Cond.selects RX4 yX4_excuse yX4_excuse, Cond.code yX4_excuse cX4_excuse 3 (some .int), Cond.fieldLink RX4 128 "ExcuseTariffs$School" "kinds" "[I", Cond.fieldLink RX4 78 "ExcuseTariffs$School" "worths" "[I", Cond.fieldLink RX4 135 "ExcuseTariffs$School" "usesInAllTerms" "[I", Cond.methodLink RX4 74 yX3_hasExcuse, Cond.instanceMethod yX3_hasExcuse, Cond.selects RX3 yX3_hasExcuse yX3_hasExcuse, Cond.code yX3_hasExcuse cX3_hasExcuse 2 (some .boolean), Cond.methodLink RX4 131 yX3_usesBySchool, Cond.methodLink RX4 138 yX3_usersOf, Cond.instanceMethod yX3_usersOf, Cond.selects RX3 yX3_usersOf yX3_usersOf, Cond.code yX3_usersOf cX3_usersOf 4 (some .int)]
def wsL_refuses_r5 : List Cond := [Cond.methodLink RL 27 yX4_novelty, Cond.instanceMethod yX4_novelty, Cond.selects RX4 yX4_novelty yX4_novelty, Cond.code yX4_novelty cX4_novelty 3 (some .int), Cond.methodLink RX4 162 yX3_noveltyFor, Cond.methodLink RL 87 yL_refusesAny, Cond.static yL_refusesAny, Cond.code yL_refusesAny cL_refusesAny 8 (some .boolean), Cond.methodLink RL 35 yX4_set, Cond.instanceMethod yX4_set, Cond.selects RX4 yX4_set yX4_set, Cond.code yX4_set cX4_set 4 (some .int), Cond.fieldLink RX4 53 "ExcuseTariffs" "LEAST_SETTINGS" "[I", Cond.fieldLink RX4 56 "ExcuseTariffs" "MOST_SETTINGS" "[I", Cond.methodLink RX4 59 yX0_keep, Cond.instanceMethod yX0_keep, Cond.selects RX0 yX0_keep yX0_keep, Cond.initialized RX0, Cond.code yX0_keep cX0_keep 2 none, Cond.fieldLink RX0 11 "ExcuseTariffs$History" "states" "[LExcuseTariffs$School;", Cond.fieldLink RX0 17 "ExcuseTariffs$History" "next" "I", Cond.fieldLink RX0 21 "ExcuseTariffs$History" "kept" "I", Cond.methodLink RX0 29 Lib.Math.min.name, Cond.static Lib.Math.min.name]
def wsL_refuses_r6 : List Cond := [Cond.code Lib.Math.min.name Lib.Math.min.code 2 (some .int), Cond.methodLink RX0 25 yX3_become, Cond.instanceMethod yX3_become, Cond.selects RX3 yX3_become yX3_become, Cond.code yX3_become cX3_become 2 none, Cond.fieldLink RX3 22 "ExcuseTariffs$School" "kinds" "[I", Cond.fieldLink RX3 25 "ExcuseTariffs$School" "worths" "[I", Cond.fieldLink RX3 28 "ExcuseTariffs$School" "usesInAllTerms" "[I", Cond.fieldLink RX3 34 "ExcuseTariffs$School" "credits" "[I", Cond.fieldLink RX3 37 "ExcuseTariffs$School" "fines" "[I", Cond.fieldLink RX3 40 "ExcuseTariffs$School" "paid" "[I", Cond.fieldLink RX3 43 "ExcuseTariffs$School" "stamps" "[I", Cond.fieldLink RX3 46 "ExcuseTariffs$School" "refusals" "[I", Cond.fieldLink RX3 49 "ExcuseTariffs$School" "latestKinds" "[I", Cond.fieldLink RX3 52 "ExcuseTariffs$School" "grudges" "[I", Cond.fieldLink RX3 55 "ExcuseTariffs$School" "refusedFor" "[I", Cond.fieldLink RX3 58 "ExcuseTariffs$School" "termsEnded" "I", Cond.static yX4_copy, Cond.code yX4_copy cX4_copy 2 none, Cond.methodLink RX4 217 Lib.Math.min.name, Cond.methodLink RX4 222 arraycopyName, Cond.native arraycopyName, Cond.static arraycopyName, Cond.initialized "java/lang/System"]
def wsL_refuses_r7 : List Cond := [Cond.methodLink RL 38 yX4_add, Cond.instanceMethod yX4_add, Cond.selects RX4 yX4_add yX4_add, Cond.code yX4_add cX4_add 3 (some .int), Cond.methodLink RX4 70 yX3_addExcuse, Cond.instanceMethod yX3_addExcuse, Cond.selects RX3 yX3_addExcuse yX3_addExcuse, Cond.code yX3_addExcuse cX3_addExcuse 3 (some .int), Cond.methodLink RL 41 yX4_worth, Cond.instanceMethod yX4_worth, Cond.selects RX4 yX4_worth yX4_worth, Cond.code yX4_worth cX4_worth 4 (some .int), Cond.methodLink RL 44 yX4_offer, Cond.instanceMethod yX4_offer, Cond.selects RX4 yX4_offer yX4_offer, Cond.code yX4_offer cX4_offer 6 (some .int), Cond.methodLink RX4 81 yX4_offerError, Cond.instanceMethod yX4_offerError, Cond.selects RX4 yX4_offerError yX4_offerError, Cond.code yX4_offerError cX4_offerError 5 (some .int), Cond.methodLink RX4 85 yX3_takeOffer, Cond.instanceMethod yX3_takeOffer, Cond.selects RX3 yX3_takeOffer yX3_takeOffer, Cond.code yX3_takeOffer cX3_takeOffer 6 (some .int)]
def wsL_refuses_r8 : List Cond := [Cond.methodLink RX3 98 yX3_reasonAgainst, Cond.instanceMethod yX3_reasonAgainst, Cond.selects RX3 yX3_reasonAgainst yX3_reasonAgainst, Cond.code yX3_reasonAgainst cX3_reasonAgainst 5 (some .int), Cond.methodLink RX3 94 yX3_weightOf, Cond.instanceMethod yX3_weightOf, Cond.selects RX3 yX3_weightOf yX3_weightOf, Cond.code yX3_weightOf cX3_weightOf 6 (some .int), Cond.methodLink RX3 91 yX3_standingOf, Cond.instanceMethod yX3_standingOf, Cond.selects RX3 yX3_standingOf yX3_standingOf, Cond.code yX3_standingOf cX3_standingOf 3 (some .int), Cond.methodLink RX3 101 yX3_stamp, Cond.instanceMethod yX3_stamp, Cond.selects RX3 yX3_stamp yX3_stamp, Cond.code yX3_stamp cX3_stamp 5 none, Cond.methodLink RX3 108 yX3_takeCredit, Cond.instanceMethod yX3_takeCredit, Cond.selects RX3 yX3_takeCredit yX3_takeCredit, Cond.code yX3_takeCredit cX3_takeCredit 3 none, Cond.methodLink RX3 112 yX3_angerMasterOf, Cond.instanceMethod yX3_angerMasterOf, Cond.selects RX3 yX3_angerMasterOf yX3_angerMasterOf, Cond.code yX3_angerMasterOf cX3_angerMasterOf 3 none]
def wsL_refuses_r9 : List Cond := [Cond.methodLink RX3 116 Lib.Math.min.name, Cond.methodLink RX3 105 yX3_refuse, Cond.instanceMethod yX3_refuse, Cond.selects RX3 yX3_refuse yX3_refuse, Cond.code yX3_refuse cX3_refuse 5 none, Cond.methodLink RL 48 yX4_pay, Cond.instanceMethod yX4_pay, Cond.selects RX4 yX4_pay yX4_pay, Cond.code yX4_pay cX4_pay 3 (some .int), Cond.methodLink RL 51 yX4_why, Cond.instanceMethod yX4_why, Cond.selects RX4 yX4_why yX4_why, Cond.code yX4_why cX4_why 6 (some .int), Cond.methodLink RX4 165 yX3_reasonAgainst, Cond.methodLink RL 54 yX4_weight, Cond.instanceMethod yX4_weight, Cond.selects RX4 yX4_weight yX4_weight, Cond.code yX4_weight cX4_weight 6 (some .int), Cond.methodLink RX4 168 yX3_weightOf, Cond.methodLink RL 57 yX4_bestWitness, Cond.instanceMethod yX4_bestWitness, Cond.selects RX4 yX4_bestWitness yX4_bestWitness, Cond.code yX4_bestWitness cX4_bestWitness 8 (some .int), Cond.methodLink RL 61 yX4_bestExcuse]
def wsL_refuses_r10 : List Cond := [Cond.instanceMethod yX4_bestExcuse, Cond.selects RX4 yX4_bestExcuse yX4_bestExcuse, Cond.code yX4_bestExcuse cX4_bestExcuse 7 (some .int), Cond.methodLink RL 64 yX4_mostMinutes, Cond.instanceMethod yX4_mostMinutes, Cond.selects RX4 yX4_mostMinutes yX4_mostMinutes, Cond.code yX4_mostMinutes cX4_mostMinutes 4 (some .int), Cond.methodLink RL 67 yX4_save, Cond.instanceMethod yX4_save, Cond.selects RX4 yX4_save yX4_save, Cond.code yX4_save cX4_save 2 (some .int), Cond.fieldLink RX4 23 "ExcuseTariffs" "slots" "[LExcuseTariffs$School;", Cond.fieldLink RX4 27 "ExcuseTariffs" "saved" "[Z", Cond.methodLink RX4 202 yX3_become, Cond.methodLink RL 70 yX4_restore, Cond.instanceMethod yX4_restore, Cond.selects RX4 yX4_restore yX4_restore, Cond.code yX4_restore cX4_restore 2 (some .int), Cond.methodLink RL 73 yX4_wipe, Cond.instanceMethod yX4_wipe, Cond.selects RX4 yX4_wipe yX4_wipe, Cond.code yX4_wipe cX4_wipe 2 (some .int), Cond.methodLink RL 77 yX4_read, Cond.instanceMethod yX4_read]
def wsL_refuses_r11 : List Cond := [Cond.selects RX4 yX4_read yX4_read, Cond.code yX4_read cX4_read 3 (some .int), Cond.fieldLink RX4 41 "ExcuseTariffs" "reader" "LExcuseTariffs$Reader;", Cond.fieldLink RX4 117 "ExcuseTariffs$Pad" "characters" "[C", Cond.methodLink RX4 107 yX4_fault, Cond.instanceMethod yX4_fault, Cond.selects RX4 yX4_fault yX4_fault, Cond.code yX4_fault cX4_fault 2 (some .int), Cond.methodLink RX4 111 yX2_begin, Cond.instanceMethod yX2_begin, Cond.selects RX2 yX2_begin yX2_begin, Cond.initialized RX2, Cond.code yX2_begin cX2_begin 1 none, Cond.fieldLink RX2 11 "ExcuseTariffs$Reader" "place" "I", Cond.fieldLink RX2 24 "ExcuseTariffs$Reader" "witness" "I", Cond.methodLink RX4 124 yX2_takes, Cond.instanceMethod yX2_takes, Cond.selects RX2 yX2_takes yX2_takes, Cond.code yX2_takes cX2_takes 2 (some .boolean), Cond.fieldLink RX2 21 "ExcuseTariffs$Reader" "minutes" "I", Cond.methodLink RX2 27 yX2_takesPupil, Cond.instanceMethod yX2_takesPupil, Cond.selects RX2 yX2_takesPupil yX2_takesPupil, Cond.code yX2_takesPupil cX2_takesPupil 2 (some .boolean)]
def wsL_refuses_r12 : List Cond := [Cond.fieldLink RX2 15 "ExcuseTariffs$Reader" "pupil" "I", Cond.methodLink RX2 51 yX2_isDigit, Cond.static yX2_isDigit, Cond.code yX2_isDigit cX2_isDigit 1 (some .boolean), Cond.methodLink RX2 34 yX2_goesOn, Cond.instanceMethod yX2_goesOn, Cond.selects RX2 yX2_goesOn yX2_goesOn, Cond.code yX2_goesOn cX2_goesOn 3 (some .boolean), Cond.methodLink RX2 31 yX2_takesExcuse, Cond.instanceMethod yX2_takesExcuse, Cond.selects RX2 yX2_takesExcuse yX2_takesExcuse, Cond.code yX2_takesExcuse cX2_takesExcuse 3 (some .boolean), Cond.fieldLink RX2 18 "ExcuseTariffs$Reader" "excuse" "I", Cond.methodLink RX2 38 yX2_takesMinutes, Cond.instanceMethod yX2_takesMinutes, Cond.selects RX2 yX2_takesMinutes yX2_takesMinutes, Cond.code yX2_takesMinutes cX2_takesMinutes 4 (some .boolean), Cond.methodLink RX2 42 yX2_takesAfterMinutes, Cond.instanceMethod yX2_takesAfterMinutes, Cond.selects RX2 yX2_takesAfterMinutes yX2_takesAfterMinutes, Cond.code yX2_takesAfterMinutes cX2_takesAfterMinutes 2 (some .boolean), Cond.methodLink RX2 48 yX2_takesComma, Cond.instanceMethod yX2_takesComma, Cond.selects RX2 yX2_takesComma yX2_takesComma]
def wsL_refuses_r13 : List Cond := [Cond.code yX2_takesComma cX2_takesComma 2 (some .boolean), Cond.methodLink RX2 45 yX2_takesWitness, Cond.instanceMethod yX2_takesWitness, Cond.selects RX2 yX2_takesWitness yX2_takesWitness, Cond.code yX2_takesWitness cX2_takesWitness 3 (some .boolean), Cond.methodLink RX4 195 yX2_canEnd, Cond.instanceMethod yX2_canEnd, Cond.selects RX2 yX2_canEnd yX2_canEnd, Cond.code yX2_canEnd cX2_canEnd 1 (some .boolean), Cond.methodLink RX4 121 yX4_stampsForWhatWasRead, Cond.instanceMethod yX4_stampsForWhatWasRead, Cond.selects RX4 yX4_stampsForWhatWasRead yX4_stampsForWhatWasRead, Cond.code yX4_stampsForWhatWasRead cX4_stampsForWhatWasRead 2 (some .int), Cond.fieldLink RX4 205 "ExcuseTariffs$Reader" "excuse" "I", Cond.fieldLink RX4 208 "ExcuseTariffs$Reader" "pupil" "I", Cond.fieldLink RX4 211 "ExcuseTariffs$Reader" "witness" "I", Cond.fieldLink RX4 214 "ExcuseTariffs$Reader" "minutes" "I", Cond.methodLink RL 80 yX4_fault]
def wsL_refuses : List Cond := .code yL_refuses cL_refuses 5 (some .boolean) :: ((wsL_refuses_r1 ++ (wsL_refuses_r2 ++ (wsL_refuses_r3 ++ (wsL_refuses_r4 ++ (wsL_refuses_r5 ++ (wsL_refuses_r6 ++ (wsL_refuses_r7 ++ (wsL_refuses_r8 ++ (wsL_refuses_r9 ++ (wsL_refuses_r10 ++ (wsL_refuses_r11 ++ (wsL_refuses_r12 ++ wsL_refuses_r13)))))))))))) ++ wsX40 ++ wsX30 ++ wsX10 ++ wsX00 ++ wsX20)
def wsL_act_r1 : List Cond := [Cond.methodLink RL 14 yX4_count, Cond.instanceMethod yX4_count, Cond.selects RX4 yX4_count yX4_count, Cond.initialized RX4, Cond.code yX4_count cX4_count 2 (some .int), Cond.fieldLink RX4 45 "ExcuseTariffs" "FIRST_SETTINGS" "[I", Cond.fieldLink RX4 10 "ExcuseTariffs" "school" "LExcuseTariffs$School;", Cond.fieldLink RX4 63 "ExcuseTariffs$School" "settings" "[I", Cond.fieldLink RX4 66 "ExcuseTariffs$School" "excuses" "I", Cond.fieldLink RX4 144 "ExcuseTariffs$School" "stamps" "[I", Cond.fieldLink RX4 171 "ExcuseTariffs$School" "refusedFor" "[I", Cond.fieldLink RX4 91 "ExcuseTariffs$School" "fines" "[I", Cond.fieldLink RX4 94 "ExcuseTariffs$School" "paid" "[I", Cond.fieldLink RX4 174 "ExcuseTariffs$School" "termsEnded" "I", Cond.fieldLink RX4 141 "ExcuseTariffs$School" "credits" "[I", Cond.fieldLink RX4 156 "ExcuseTariffs$School" "grudges" "[I", Cond.fieldLink RX4 34 "ExcuseTariffs" "pad" "LExcuseTariffs$Pad;", Cond.fieldLink RX4 114 "ExcuseTariffs$Pad" "length" "I", Cond.fieldLink RX4 19 "ExcuseTariffs" "history" "LExcuseTariffs$History;", Cond.fieldLink RX4 180 "ExcuseTariffs$History" "kept" "I", Cond.methodLink RX4 49 yX4_isWithin, Cond.static yX4_isWithin, Cond.code yX4_isWithin cX4_isWithin 3 (some .boolean), Cond.methodLink RX4 100 yX4_sum]
def wsL_act_r2 : List Cond := [Cond.static yX4_sum, Cond.code yX4_sum cX4_sum 3 (some .int), Cond.methodLink RX4 177 yX3_wornOutExcuses, Cond.instanceMethod yX3_wornOutExcuses, Cond.selects RX3 yX3_wornOutExcuses yX3_wornOutExcuses, Cond.initialized RX3, Cond.code yX3_wornOutExcuses cX3_wornOutExcuses 3 (some .int), Cond.fieldLink RX3 18 "ExcuseTariffs$School" "excuses" "I", Cond.methodLink RX3 84 yX3_isWornOut, Cond.instanceMethod yX3_isWornOut, Cond.selects RX3 yX3_isWornOut yX3_isWornOut, Cond.code yX3_isWornOut cX3_isWornOut 3 (some .boolean), Cond.methodLink RX3 88 yX3_noveltyFor, Cond.instanceMethod yX3_noveltyFor, Cond.selects RX3 yX3_noveltyFor yX3_noveltyFor, Cond.code yX3_noveltyFor cX3_noveltyFor 4 (some .int), Cond.fieldLink RX3 13 "ExcuseTariffs$School" "settings" "[I", Cond.methodLink RX3 79 Lib.Math.max.name, Cond.static Lib.Math.max.name, Cond.initialized "java/lang/Math", Cond.code Lib.Math.max.name Lib.Math.max.code 2 (some .int), Cond.methodLink RX3 69 yX3_usesBySchool, Cond.instanceMethod yX3_usesBySchool, Cond.selects RX3 yX3_usesBySchool yX3_usesBySchool]
def wsL_act_r3 : List Cond := [Cond.code yX3_usesBySchool cX3_usesBySchool 4 (some .int), Cond.fieldLink RX3 31 "ExcuseTariffs$School" "uses" "[I", Cond.static yX4_classOf, Cond.code yX4_classOf cX4_classOf 1 (some .int), Cond.methodLink RX3 76 yX3_usesByClass, Cond.instanceMethod yX3_usesByClass, Cond.selects RX3 yX3_usesByClass yX3_usesByClass, Cond.code yX3_usesByClass cX3_usesByClass 4 (some .int), Cond.methodLink RL 38 yX4_add, Cond.instanceMethod yX4_add, Cond.selects RX4 yX4_add yX4_add, Cond.code yX4_add cX4_add 3 (some .int), Cond.methodLink RX4 59 yX0_keep, Cond.instanceMethod yX0_keep, Cond.selects RX0 yX0_keep yX0_keep, Cond.initialized RX0, Cond.code yX0_keep cX0_keep 2 none, Cond.fieldLink RX0 11 "ExcuseTariffs$History" "states" "[LExcuseTariffs$School;", Cond.fieldLink RX0 17 "ExcuseTariffs$History" "next" "I", Cond.fieldLink RX0 21 "ExcuseTariffs$History" "kept" "I", Cond.methodLink RX0 29 Lib.Math.min.name, Cond.static Lib.Math.min.name, Cond.code Lib.Math.min.name Lib.Math.min.code 2 (some .int), Cond.methodLink RX0 25 yX3_become]
def wsL_act_r4 : List Cond := [Cond.instanceMethod yX3_become, Cond.selects RX3 yX3_become yX3_become, Cond.code yX3_become cX3_become 2 none, Cond.fieldLink RX3 22 "ExcuseTariffs$School" "kinds" "[I", Cond.fieldLink RX3 25 "ExcuseTariffs$School" "worths" "[I", Cond.fieldLink RX3 28 "ExcuseTariffs$School" "usesInAllTerms" "[I", Cond.fieldLink RX3 34 "ExcuseTariffs$School" "credits" "[I", Cond.fieldLink RX3 37 "ExcuseTariffs$School" "fines" "[I", Cond.fieldLink RX3 40 "ExcuseTariffs$School" "paid" "[I", Cond.fieldLink RX3 43 "ExcuseTariffs$School" "stamps" "[I", Cond.fieldLink RX3 46 "ExcuseTariffs$School" "refusals" "[I", Cond.fieldLink RX3 49 "ExcuseTariffs$School" "latestKinds" "[I", Cond.fieldLink RX3 52 "ExcuseTariffs$School" "grudges" "[I", Cond.fieldLink RX3 55 "ExcuseTariffs$School" "refusedFor" "[I", Cond.fieldLink RX3 58 "ExcuseTariffs$School" "termsEnded" "I", Cond.static yX4_copy, Cond.code yX4_copy cX4_copy 2 none, Cond.methodLink RX4 217 Lib.Math.min.name, Cond.methodLink RX4 222 arraycopyName, Cond.native arraycopyName, Cond.static arraycopyName, Cond.initialized "java/lang/System", Cond.methodLink RX4 70 yX3_addExcuse, Cond.instanceMethod yX3_addExcuse]
def wsL_act_r5 : List Cond := [Cond.selects RX3 yX3_addExcuse yX3_addExcuse, Cond.code yX3_addExcuse cX3_addExcuse 3 (some .int), Cond.methodLink RL 24 yX4_excuse, Cond.instanceMethod yX4_excuse, Cond.selects RX4 yX4_excuse yX4_excuse, Cond.code yX4_excuse cX4_excuse 3 (some .int), Cond.fieldLink RX4 128 "ExcuseTariffs$School" "kinds" "[I", Cond.fieldLink RX4 78 "ExcuseTariffs$School" "worths" "[I", Cond.fieldLink RX4 135 "ExcuseTariffs$School" "usesInAllTerms" "[I", Cond.methodLink RX4 74 yX3_hasExcuse, Cond.instanceMethod yX3_hasExcuse, Cond.selects RX3 yX3_hasExcuse yX3_hasExcuse, Cond.code yX3_hasExcuse cX3_hasExcuse 2 (some .boolean), Cond.methodLink RX4 131 yX3_usesBySchool, Cond.methodLink RX4 138 yX3_usersOf, Cond.instanceMethod yX3_usersOf, Cond.selects RX3 yX3_usersOf yX3_usersOf, Cond.code yX3_usersOf cX3_usersOf 4 (some .int), Cond.methodLink RX3 65 yX3_usesOf, Cond.instanceMethod yX3_usesOf, Cond.selects RX3 yX3_usesOf yX3_usesOf, Cond.code yX3_usesOf cX3_usesOf 3 (some .int), Cond.methodLink RL 27 yX4_novelty, Cond.instanceMethod yX4_novelty]
def wsL_act_r6 : List Cond := [Cond.selects RX4 yX4_novelty yX4_novelty, Cond.code yX4_novelty cX4_novelty 3 (some .int), Cond.methodLink RX4 88 yX4_isPupil, Cond.static yX4_isPupil, Cond.code yX4_isPupil cX4_isPupil 1 (some .boolean), Cond.methodLink RX4 162 yX3_noveltyFor, Cond.methodLink RL 51 yX4_why, Cond.instanceMethod yX4_why, Cond.selects RX4 yX4_why yX4_why, Cond.code yX4_why cX4_why 6 (some .int), Cond.methodLink RX4 81 yX4_offerError, Cond.instanceMethod yX4_offerError, Cond.selects RX4 yX4_offerError yX4_offerError, Cond.code yX4_offerError cX4_offerError 5 (some .int), Cond.methodLink RX4 165 yX3_reasonAgainst, Cond.instanceMethod yX3_reasonAgainst, Cond.selects RX3 yX3_reasonAgainst yX3_reasonAgainst, Cond.code yX3_reasonAgainst cX3_reasonAgainst 5 (some .int), Cond.methodLink RX3 94 yX3_weightOf, Cond.instanceMethod yX3_weightOf, Cond.selects RX3 yX3_weightOf yX3_weightOf, Cond.code yX3_weightOf cX3_weightOf 6 (some .int), Cond.methodLink RX3 91 yX3_standingOf, Cond.instanceMethod yX3_standingOf]
def wsL_act_r7 : List Cond := [Cond.selects RX3 yX3_standingOf yX3_standingOf, Cond.code yX3_standingOf cX3_standingOf 3 (some .int), Cond.methodLink RL 54 yX4_weight, Cond.instanceMethod yX4_weight, Cond.selects RX4 yX4_weight yX4_weight, Cond.code yX4_weight cX4_weight 6 (some .int), Cond.methodLink RX4 168 yX3_weightOf, Cond.methodLink RL 44 yX4_offer, Cond.instanceMethod yX4_offer, Cond.selects RX4 yX4_offer yX4_offer, Cond.code yX4_offer cX4_offer 6 (some .int), Cond.methodLink RX4 85 yX3_takeOffer, Cond.instanceMethod yX3_takeOffer, Cond.selects RX3 yX3_takeOffer yX3_takeOffer, Cond.code yX3_takeOffer cX3_takeOffer 6 (some .int), Cond.methodLink RX3 98 yX3_reasonAgainst, Cond.methodLink RX3 101 yX3_stamp, Cond.instanceMethod yX3_stamp, Cond.selects RX3 yX3_stamp yX3_stamp, Cond.code yX3_stamp cX3_stamp 5 none, Cond.methodLink RX3 108 yX3_takeCredit, Cond.instanceMethod yX3_takeCredit, Cond.selects RX3 yX3_takeCredit yX3_takeCredit, Cond.code yX3_takeCredit cX3_takeCredit 3 none]
def wsL_act_r8 : List Cond := [Cond.methodLink RX3 112 yX3_angerMasterOf, Cond.instanceMethod yX3_angerMasterOf, Cond.selects RX3 yX3_angerMasterOf yX3_angerMasterOf, Cond.code yX3_angerMasterOf cX3_angerMasterOf 3 none, Cond.methodLink RX3 116 Lib.Math.min.name, Cond.methodLink RX3 105 yX3_refuse, Cond.instanceMethod yX3_refuse, Cond.selects RX3 yX3_refuse yX3_refuse, Cond.code yX3_refuse cX3_refuse 5 none, Cond.methodLink RL 91 yX4_endTerm, Cond.instanceMethod yX4_endTerm, Cond.selects RX4 yX4_endTerm yX4_endTerm, Cond.code yX4_endTerm cX4_endTerm 2 (some .int), Cond.fieldLink RX4 97 "ExcuseTariffs$School" "uses" "[I", Cond.methodLink RX4 104 yX3_beginNextTerm, Cond.instanceMethod yX3_beginNextTerm, Cond.selects RX3 yX3_beginNextTerm yX3_beginNextTerm, Cond.code yX3_beginNextTerm cX3_beginNextTerm 2 none, Cond.methodLink RL 20 yX4_pupil, Cond.instanceMethod yX4_pupil, Cond.selects RX4 yX4_pupil yX4_pupil, Cond.code yX4_pupil cX4_pupil 3 (some .int), Cond.fieldLink RX4 147 "ExcuseTariffs$School" "refusals" "[I", Cond.fieldLink RX4 150 "ExcuseTariffs$School" "latestKinds" "[I"]
def wsL_act_r9 : List Cond := [Cond.methodLink RX4 153 yX3_usesByPupil, Cond.instanceMethod yX3_usesByPupil, Cond.selects RX3 yX3_usesByPupil yX3_usesByPupil, Cond.code yX3_usesByPupil cX3_usesByPupil 4 (some .int), Cond.methodLink RX4 159 yX4_classOf, Cond.methodLink RL 48 yX4_pay, Cond.instanceMethod yX4_pay, Cond.selects RX4 yX4_pay yX4_pay, Cond.code yX4_pay cX4_pay 3 (some .int), Cond.methodLink RL 41 yX4_worth, Cond.instanceMethod yX4_worth, Cond.selects RX4 yX4_worth yX4_worth, Cond.code yX4_worth cX4_worth 4 (some .int), Cond.methodLink RL 35 yX4_set, Cond.instanceMethod yX4_set, Cond.selects RX4 yX4_set yX4_set, Cond.code yX4_set cX4_set 4 (some .int), Cond.fieldLink RX4 53 "ExcuseTariffs" "LEAST_SETTINGS" "[I", Cond.fieldLink RX4 56 "ExcuseTariffs" "MOST_SETTINGS" "[I"]
def wsL_act : List Cond := .code yL_act cL_act 15 (some .int) :: ((wsL_act_r1 ++ (wsL_act_r2 ++ (wsL_act_r3 ++ (wsL_act_r4 ++ (wsL_act_r5 ++ (wsL_act_r6 ++ (wsL_act_r7 ++ (wsL_act_r8 ++ wsL_act_r9)))))))) ++ wsX40 ++ wsX30 ++ wsX10 ++ wsX00)
def wsL_law_r1 : List Cond := [Cond.classLink RL 15 RX4, Cond.instantiable RX4 6, Cond.initialized RX4, Cond.methodLink RL 94 yX4_init, Cond.instanceMethod yX4_init, Cond.code yX4_init cX4_init 2 none, Cond.methodLink RX4 1 objectInit, Cond.instanceMethod objectInit, Cond.code objectInit ⟨#[0xb1]⟩ 1 none, Cond.classLink RX4 7 RX3, Cond.instantiable RX3 15, Cond.initialized RX3, Cond.fieldLink RX4 10 "ExcuseTariffs" "school" "LExcuseTariffs$School;", Cond.classLink RX4 16 RX0, Cond.instantiable RX0 3, Cond.initialized RX0, Cond.fieldLink RX4 19 "ExcuseTariffs" "history" "LExcuseTariffs$History;", Cond.fieldLink RX4 23 "ExcuseTariffs" "slots" "[LExcuseTariffs$School;", Cond.arrayClass .boolean, Cond.fieldLink RX4 27 "ExcuseTariffs" "saved" "[Z", Cond.classLink RX4 31 RX1, Cond.instantiable RX1 2, Cond.initialized RX1, Cond.fieldLink RX4 34 "ExcuseTariffs" "pad" "LExcuseTariffs$Pad;"]
def wsL_law_r2 : List Cond := [Cond.classLink RX4 38 RX2, Cond.instantiable RX2 5, Cond.initialized RX2, Cond.fieldLink RX4 41 "ExcuseTariffs" "reader" "LExcuseTariffs$Reader;", Cond.methodLink RX4 9 yX3_init, Cond.instanceMethod yX3_init, Cond.code yX3_init cX3_init 2 none, Cond.methodLink RX3 3 objectInit, Cond.arrayClass .int, Cond.fieldLink RX3 13 "ExcuseTariffs$School" "settings" "[I", Cond.fieldLink RX3 18 "ExcuseTariffs$School" "excuses" "I", Cond.fieldLink RX3 22 "ExcuseTariffs$School" "kinds" "[I", Cond.fieldLink RX3 25 "ExcuseTariffs$School" "worths" "[I", Cond.fieldLink RX3 28 "ExcuseTariffs$School" "usesInAllTerms" "[I", Cond.fieldLink RX3 31 "ExcuseTariffs$School" "uses" "[I", Cond.fieldLink RX3 34 "ExcuseTariffs$School" "credits" "[I", Cond.fieldLink RX3 37 "ExcuseTariffs$School" "fines" "[I", Cond.fieldLink RX3 40 "ExcuseTariffs$School" "paid" "[I", Cond.fieldLink RX3 43 "ExcuseTariffs$School" "stamps" "[I", Cond.fieldLink RX3 46 "ExcuseTariffs$School" "refusals" "[I", Cond.fieldLink RX3 49 "ExcuseTariffs$School" "latestKinds" "[I", Cond.fieldLink RX3 52 "ExcuseTariffs$School" "grudges" "[I", Cond.fieldLink RX3 55 "ExcuseTariffs$School" "refusedFor" "[I", Cond.fieldLink RX3 58 "ExcuseTariffs$School" "termsEnded" "I"]
def wsL_law_r3 : List Cond := [Cond.static yX4_copy, Cond.code yX4_copy cX4_copy 2 none, Cond.methodLink RX4 217 Lib.Math.min.name, Cond.static Lib.Math.min.name, Cond.initialized "java/lang/Math", Cond.code Lib.Math.min.name Lib.Math.min.code 2 (some .int), Cond.methodLink RX4 222 arraycopyName, Cond.native arraycopyName, Cond.static arraycopyName, Cond.initialized "java/lang/System", Cond.methodLink RX4 18 yX0_init, Cond.instanceMethod yX0_init, Cond.code yX0_init cX0_init 2 none, Cond.methodLink RX0 3 objectInit, Cond.classLink RX0 9 RX3, Cond.fieldLink RX0 11 "ExcuseTariffs$History" "states" "[LExcuseTariffs$School;", Cond.fieldLink RX0 17 "ExcuseTariffs$History" "next" "I", Cond.fieldLink RX0 21 "ExcuseTariffs$History" "kept" "I", Cond.methodLink RX0 24 yX3_init, Cond.instanceMethod yX1_init, Cond.code yX1_init cX1_init 1 none, Cond.methodLink RX1 3 objectInit, Cond.arrayClass .char, Cond.fieldLink RX1 9 "ExcuseTariffs$Pad" "characters" "[C"]
def wsL_law_r4 : List Cond := [Cond.fieldLink RX1 15 "ExcuseTariffs$Pad" "length" "I", Cond.instanceMethod yX2_init, Cond.code yX2_init cX2_init 1 none, Cond.methodLink RX2 3 objectInit, Cond.fieldLink RX2 11 "ExcuseTariffs$Reader" "place" "I", Cond.fieldLink RX2 15 "ExcuseTariffs$Reader" "pupil" "I", Cond.fieldLink RX2 18 "ExcuseTariffs$Reader" "excuse" "I", Cond.fieldLink RX2 21 "ExcuseTariffs$Reader" "minutes" "I", Cond.fieldLink RX2 24 "ExcuseTariffs$Reader" "witness" "I", Cond.methodLink RL 95 yX4_undo, Cond.instanceMethod yX4_undo, Cond.selects RX4 yX4_undo yX4_undo, Cond.code yX4_undo cX4_undo 1 (some .int), Cond.fieldLink RX4 180 "ExcuseTariffs$History" "kept" "I", Cond.methodLink RX4 199 yX0_takeBack, Cond.instanceMethod yX0_takeBack, Cond.selects RX0 yX0_takeBack yX0_takeBack, Cond.code yX0_takeBack cX0_takeBack 2 none, Cond.methodLink RX0 25 yX3_become, Cond.instanceMethod yX3_become, Cond.selects RX3 yX3_become yX3_become, Cond.code yX3_become cX3_become 2 none, Cond.methodLink RL 70 yX4_restore, Cond.instanceMethod yX4_restore]
def wsL_law_r5 : List Cond := [Cond.selects RX4 yX4_restore yX4_restore, Cond.code yX4_restore cX4_restore 2 (some .int), Cond.fieldLink RX4 174 "ExcuseTariffs$School" "termsEnded" "I", Cond.methodLink RX4 49 yX4_isWithin, Cond.static yX4_isWithin, Cond.code yX4_isWithin cX4_isWithin 3 (some .boolean), Cond.methodLink RX4 59 yX0_keep, Cond.instanceMethod yX0_keep, Cond.selects RX0 yX0_keep yX0_keep, Cond.code yX0_keep cX0_keep 2 none, Cond.methodLink RX0 29 Lib.Math.min.name, Cond.methodLink RX4 202 yX3_become, Cond.methodLink RL 14 yX4_count, Cond.instanceMethod yX4_count, Cond.selects RX4 yX4_count yX4_count, Cond.code yX4_count cX4_count 2 (some .int), Cond.fieldLink RX4 45 "ExcuseTariffs" "FIRST_SETTINGS" "[I", Cond.fieldLink RX4 63 "ExcuseTariffs$School" "settings" "[I", Cond.fieldLink RX4 66 "ExcuseTariffs$School" "excuses" "I", Cond.fieldLink RX4 144 "ExcuseTariffs$School" "stamps" "[I", Cond.fieldLink RX4 171 "ExcuseTariffs$School" "refusedFor" "[I", Cond.fieldLink RX4 91 "ExcuseTariffs$School" "fines" "[I", Cond.fieldLink RX4 94 "ExcuseTariffs$School" "paid" "[I", Cond.fieldLink RX4 141 "ExcuseTariffs$School" "credits" "[I"]
def wsL_law_r6 : List Cond := [Cond.fieldLink RX4 156 "ExcuseTariffs$School" "grudges" "[I", Cond.fieldLink RX4 114 "ExcuseTariffs$Pad" "length" "I", Cond.methodLink RX4 100 yX4_sum, Cond.static yX4_sum, Cond.code yX4_sum cX4_sum 3 (some .int), Cond.methodLink RX4 177 yX3_wornOutExcuses, Cond.instanceMethod yX3_wornOutExcuses, Cond.selects RX3 yX3_wornOutExcuses yX3_wornOutExcuses, Cond.code yX3_wornOutExcuses cX3_wornOutExcuses 3 (some .int), Cond.methodLink RX3 84 yX3_isWornOut, Cond.instanceMethod yX3_isWornOut, Cond.selects RX3 yX3_isWornOut yX3_isWornOut, Cond.code yX3_isWornOut cX3_isWornOut 3 (some .boolean), Cond.methodLink RX3 88 yX3_noveltyFor, Cond.instanceMethod yX3_noveltyFor, Cond.selects RX3 yX3_noveltyFor yX3_noveltyFor, Cond.code yX3_noveltyFor cX3_noveltyFor 4 (some .int), Cond.methodLink RX3 79 Lib.Math.max.name, Cond.static Lib.Math.max.name, Cond.code Lib.Math.max.name Lib.Math.max.code 2 (some .int), Cond.methodLink RX3 69 yX3_usesBySchool, Cond.instanceMethod yX3_usesBySchool, Cond.selects RX3 yX3_usesBySchool yX3_usesBySchool, Cond.code yX3_usesBySchool cX3_usesBySchool 4 (some .int)]
def wsL_law_r7 : List Cond := [Cond.static yX4_classOf, Cond.code yX4_classOf cX4_classOf 1 (some .int), Cond.methodLink RX3 76 yX3_usesByClass, Cond.instanceMethod yX3_usesByClass, Cond.selects RX3 yX3_usesByClass yX3_usesByClass, Cond.code yX3_usesByClass cX3_usesByClass 4 (some .int), Cond.methodLink RL 98 yL_refuses, Cond.static yL_refuses, Cond.initialized RL, Cond.code yL_refuses cL_refuses 5 (some .boolean), Cond.methodLink RL 83 yL_seen, Cond.static yL_seen, Cond.code yL_seen cL_seen 4 (some .long), Cond.constantLong RL 10 (197), Cond.constantLong RL 12 (31), Cond.methodLink RL 20 yX4_pupil, Cond.instanceMethod yX4_pupil, Cond.selects RX4 yX4_pupil yX4_pupil, Cond.code yX4_pupil cX4_pupil 3 (some .int), Cond.fieldLink RX4 147 "ExcuseTariffs$School" "refusals" "[I", Cond.fieldLink RX4 150 "ExcuseTariffs$School" "latestKinds" "[I", Cond.methodLink RX4 88 yX4_isPupil, Cond.static yX4_isPupil, Cond.code yX4_isPupil cX4_isPupil 1 (some .boolean)]
def wsL_law_r8 : List Cond := [Cond.methodLink RX4 153 yX3_usesByPupil, Cond.instanceMethod yX3_usesByPupil, Cond.selects RX3 yX3_usesByPupil yX3_usesByPupil, Cond.code yX3_usesByPupil cX3_usesByPupil 4 (some .int), Cond.methodLink RX3 65 yX3_usesOf, Cond.instanceMethod yX3_usesOf, Cond.selects RX3 yX3_usesOf yX3_usesOf, Cond.code yX3_usesOf cX3_usesOf 3 (some .int), Cond.methodLink RX4 159 yX4_classOf, Cond.methodLink RL 24 yX4_excuse, Cond.instanceMethod yX4_excuse, Cond.selects RX4 yX4_excuse yX4_excuse, Cond.code yX4_excuse cX4_excuse 3 (some .int), Cond.fieldLink RX4 128 "ExcuseTariffs$School" "kinds" "[I", Cond.fieldLink RX4 78 "ExcuseTariffs$School" "worths" "[I", Cond.fieldLink RX4 135 "ExcuseTariffs$School" "usesInAllTerms" "[I", Cond.methodLink RX4 74 yX3_hasExcuse, Cond.instanceMethod yX3_hasExcuse, Cond.selects RX3 yX3_hasExcuse yX3_hasExcuse, Cond.code yX3_hasExcuse cX3_hasExcuse 2 (some .boolean), Cond.methodLink RX4 131 yX3_usesBySchool, Cond.methodLink RX4 138 yX3_usersOf, Cond.instanceMethod yX3_usersOf, Cond.selects RX3 yX3_usersOf yX3_usersOf]
def wsL_law_r9 : List Cond := [Cond.code yX3_usersOf cX3_usersOf 4 (some .int), Cond.methodLink RL 27 yX4_novelty, Cond.instanceMethod yX4_novelty, Cond.selects RX4 yX4_novelty yX4_novelty, Cond.code yX4_novelty cX4_novelty 3 (some .int), Cond.methodLink RX4 162 yX3_noveltyFor, Cond.methodLink RL 87 yL_refusesAny, Cond.static yL_refusesAny, Cond.code yL_refusesAny cL_refusesAny 8 (some .boolean), Cond.methodLink RL 35 yX4_set, Cond.instanceMethod yX4_set, Cond.selects RX4 yX4_set yX4_set, Cond.code yX4_set cX4_set 4 (some .int), Cond.fieldLink RX4 53 "ExcuseTariffs" "LEAST_SETTINGS" "[I", Cond.fieldLink RX4 56 "ExcuseTariffs" "MOST_SETTINGS" "[I", Cond.methodLink RL 38 yX4_add, Cond.instanceMethod yX4_add, Cond.selects RX4 yX4_add yX4_add, Cond.code yX4_add cX4_add 3 (some .int), Cond.methodLink RX4 70 yX3_addExcuse, Cond.instanceMethod yX3_addExcuse, Cond.selects RX3 yX3_addExcuse yX3_addExcuse, Cond.code yX3_addExcuse cX3_addExcuse 3 (some .int), Cond.methodLink RL 41 yX4_worth]
def wsL_law_r10 : List Cond := [Cond.instanceMethod yX4_worth, Cond.selects RX4 yX4_worth yX4_worth, Cond.code yX4_worth cX4_worth 4 (some .int), Cond.methodLink RL 44 yX4_offer, Cond.instanceMethod yX4_offer, Cond.selects RX4 yX4_offer yX4_offer, Cond.code yX4_offer cX4_offer 6 (some .int), Cond.methodLink RX4 81 yX4_offerError, Cond.instanceMethod yX4_offerError, Cond.selects RX4 yX4_offerError yX4_offerError, Cond.code yX4_offerError cX4_offerError 5 (some .int), Cond.methodLink RX4 85 yX3_takeOffer, Cond.instanceMethod yX3_takeOffer, Cond.selects RX3 yX3_takeOffer yX3_takeOffer, Cond.code yX3_takeOffer cX3_takeOffer 6 (some .int), Cond.methodLink RX3 98 yX3_reasonAgainst, Cond.instanceMethod yX3_reasonAgainst, Cond.selects RX3 yX3_reasonAgainst yX3_reasonAgainst, Cond.code yX3_reasonAgainst cX3_reasonAgainst 5 (some .int), Cond.methodLink RX3 94 yX3_weightOf, Cond.instanceMethod yX3_weightOf, Cond.selects RX3 yX3_weightOf yX3_weightOf, Cond.code yX3_weightOf cX3_weightOf 6 (some .int), Cond.methodLink RX3 91 yX3_standingOf]
def wsL_law_r11 : List Cond := [Cond.instanceMethod yX3_standingOf, Cond.selects RX3 yX3_standingOf yX3_standingOf, Cond.code yX3_standingOf cX3_standingOf 3 (some .int), Cond.methodLink RX3 101 yX3_stamp, Cond.instanceMethod yX3_stamp, Cond.selects RX3 yX3_stamp yX3_stamp, Cond.code yX3_stamp cX3_stamp 5 none, Cond.methodLink RX3 108 yX3_takeCredit, Cond.instanceMethod yX3_takeCredit, Cond.selects RX3 yX3_takeCredit yX3_takeCredit, Cond.code yX3_takeCredit cX3_takeCredit 3 none, Cond.methodLink RX3 112 yX3_angerMasterOf, Cond.instanceMethod yX3_angerMasterOf, Cond.selects RX3 yX3_angerMasterOf yX3_angerMasterOf, Cond.code yX3_angerMasterOf cX3_angerMasterOf 3 none, Cond.methodLink RX3 116 Lib.Math.min.name, Cond.methodLink RX3 105 yX3_refuse, Cond.instanceMethod yX3_refuse, Cond.selects RX3 yX3_refuse yX3_refuse, Cond.code yX3_refuse cX3_refuse 5 none, Cond.methodLink RL 48 yX4_pay, Cond.instanceMethod yX4_pay, Cond.selects RX4 yX4_pay yX4_pay, Cond.code yX4_pay cX4_pay 3 (some .int)]
def wsL_law_r12 : List Cond := [Cond.methodLink RL 51 yX4_why, Cond.instanceMethod yX4_why, Cond.selects RX4 yX4_why yX4_why, Cond.code yX4_why cX4_why 6 (some .int), Cond.methodLink RX4 165 yX3_reasonAgainst, Cond.methodLink RL 54 yX4_weight, Cond.instanceMethod yX4_weight, Cond.selects RX4 yX4_weight yX4_weight, Cond.code yX4_weight cX4_weight 6 (some .int), Cond.methodLink RX4 168 yX3_weightOf, Cond.methodLink RL 57 yX4_bestWitness, Cond.instanceMethod yX4_bestWitness, Cond.selects RX4 yX4_bestWitness yX4_bestWitness, Cond.code yX4_bestWitness cX4_bestWitness 8 (some .int), Cond.methodLink RL 61 yX4_bestExcuse, Cond.instanceMethod yX4_bestExcuse, Cond.selects RX4 yX4_bestExcuse yX4_bestExcuse, Cond.code yX4_bestExcuse cX4_bestExcuse 7 (some .int), Cond.methodLink RL 64 yX4_mostMinutes, Cond.instanceMethod yX4_mostMinutes, Cond.selects RX4 yX4_mostMinutes yX4_mostMinutes, Cond.code yX4_mostMinutes cX4_mostMinutes 4 (some .int), Cond.methodLink RL 67 yX4_save, Cond.instanceMethod yX4_save]
def wsL_law_r13 : List Cond := [Cond.selects RX4 yX4_save yX4_save, Cond.code yX4_save cX4_save 2 (some .int), Cond.methodLink RL 73 yX4_wipe, Cond.instanceMethod yX4_wipe, Cond.selects RX4 yX4_wipe yX4_wipe, Cond.code yX4_wipe cX4_wipe 2 (some .int), Cond.methodLink RL 77 yX4_read, Cond.instanceMethod yX4_read, Cond.selects RX4 yX4_read yX4_read, Cond.code yX4_read cX4_read 3 (some .int), Cond.fieldLink RX4 117 "ExcuseTariffs$Pad" "characters" "[C", Cond.methodLink RX4 107 yX4_fault, Cond.instanceMethod yX4_fault, Cond.selects RX4 yX4_fault yX4_fault, Cond.code yX4_fault cX4_fault 2 (some .int), Cond.methodLink RX4 111 yX2_begin, Cond.instanceMethod yX2_begin, Cond.selects RX2 yX2_begin yX2_begin, Cond.code yX2_begin cX2_begin 1 none, Cond.methodLink RX4 124 yX2_takes, Cond.instanceMethod yX2_takes, Cond.selects RX2 yX2_takes yX2_takes, Cond.code yX2_takes cX2_takes 2 (some .boolean), Cond.methodLink RX2 27 yX2_takesPupil]
def wsL_law_r14 : List Cond := [Cond.instanceMethod yX2_takesPupil, Cond.selects RX2 yX2_takesPupil yX2_takesPupil, Cond.code yX2_takesPupil cX2_takesPupil 2 (some .boolean), Cond.methodLink RX2 51 yX2_isDigit, Cond.static yX2_isDigit, Cond.code yX2_isDigit cX2_isDigit 1 (some .boolean), Cond.methodLink RX2 34 yX2_goesOn, Cond.instanceMethod yX2_goesOn, Cond.selects RX2 yX2_goesOn yX2_goesOn, Cond.code yX2_goesOn cX2_goesOn 3 (some .boolean), Cond.methodLink RX2 31 yX2_takesExcuse, Cond.instanceMethod yX2_takesExcuse, Cond.selects RX2 yX2_takesExcuse yX2_takesExcuse, Cond.code yX2_takesExcuse cX2_takesExcuse 3 (some .boolean), Cond.methodLink RX2 38 yX2_takesMinutes, Cond.instanceMethod yX2_takesMinutes, Cond.selects RX2 yX2_takesMinutes yX2_takesMinutes, Cond.code yX2_takesMinutes cX2_takesMinutes 4 (some .boolean), Cond.methodLink RX2 42 yX2_takesAfterMinutes, Cond.instanceMethod yX2_takesAfterMinutes, Cond.selects RX2 yX2_takesAfterMinutes yX2_takesAfterMinutes, Cond.code yX2_takesAfterMinutes cX2_takesAfterMinutes 2 (some .boolean), Cond.methodLink RX2 48 yX2_takesComma, Cond.instanceMethod yX2_takesComma]
def wsL_law_r15 : List Cond := [Cond.selects RX2 yX2_takesComma yX2_takesComma, Cond.code yX2_takesComma cX2_takesComma 2 (some .boolean), Cond.methodLink RX2 45 yX2_takesWitness, Cond.instanceMethod yX2_takesWitness, Cond.selects RX2 yX2_takesWitness yX2_takesWitness, Cond.code yX2_takesWitness cX2_takesWitness 3 (some .boolean), Cond.methodLink RX4 195 yX2_canEnd, Cond.instanceMethod yX2_canEnd, Cond.selects RX2 yX2_canEnd yX2_canEnd, Cond.code yX2_canEnd cX2_canEnd 1 (some .boolean), Cond.methodLink RX4 121 yX4_stampsForWhatWasRead, Cond.instanceMethod yX4_stampsForWhatWasRead, Cond.selects RX4 yX4_stampsForWhatWasRead yX4_stampsForWhatWasRead, Cond.code yX4_stampsForWhatWasRead cX4_stampsForWhatWasRead 2 (some .int), Cond.fieldLink RX4 205 "ExcuseTariffs$Reader" "excuse" "I", Cond.fieldLink RX4 208 "ExcuseTariffs$Reader" "pupil" "I", Cond.fieldLink RX4 211 "ExcuseTariffs$Reader" "witness" "I", Cond.fieldLink RX4 214 "ExcuseTariffs$Reader" "minutes" "I", Cond.methodLink RL 80 yX4_fault, Cond.methodLink RL 101 yL_cell, Cond.static yL_cell, Cond.code yL_cell cL_cell 2 (some .int), Cond.constant RL 7 (431585810), Cond.constant RL 8 (80021)]
def wsL_law_r16 : List Cond := [Cond.constant RL 9 (2147483647), Cond.methodLink RL 105 yL_act, Cond.static yL_act, Cond.code yL_act cL_act 15 (some .int), Cond.methodLink RL 91 yX4_endTerm, Cond.instanceMethod yX4_endTerm, Cond.selects RX4 yX4_endTerm yX4_endTerm, Cond.code yX4_endTerm cX4_endTerm 2 (some .int), Cond.fieldLink RX4 97 "ExcuseTariffs$School" "uses" "[I", Cond.methodLink RX4 104 yX3_beginNextTerm, Cond.instanceMethod yX3_beginNextTerm, Cond.selects RX3 yX3_beginNextTerm yX3_beginNextTerm, Cond.code yX3_beginNextTerm cX3_beginNextTerm 2 none, Cond.methodLink RL 109 yL_arePupils, Cond.static yL_arePupils, Cond.code yL_arePupils cL_arePupils 17 (some .boolean), Cond.methodLink RL 32 yL_size, Cond.static yL_size, Cond.code yL_size cL_size 3 (some .int)]
def wsL_law : List Cond := (wsL_law_r1 ++ (wsL_law_r2 ++ (wsL_law_r3 ++ (wsL_law_r4 ++ (wsL_law_r5 ++ (wsL_law_r6 ++ (wsL_law_r7 ++ (wsL_law_r8 ++ (wsL_law_r9 ++ (wsL_law_r10 ++ (wsL_law_r11 ++ (wsL_law_r12 ++ (wsL_law_r13 ++ (wsL_law_r14 ++ (wsL_law_r15 ++ wsL_law_r16))))))))))))))) ++ wsX40 ++ wsX30 ++ wsX00 ++ wsX10 ++ wsX20 ++ ([] : List Cond)
abbrev vwCl : List vw_C := [(RX0, TX0, 3), (RX1, TX1, 2), (RX2, TX2, 5), (RX3, TX3, 15), (RX4, TX4, 6)]
end
section
theorem ml_pos {big : List Cond} (ws : List Cond) (ps : List Nat) (hp : ws = ps.filterMap (fun i => big[i]?)) : ∀ w ∈ ws, w ∈ big := by
  intro w hw
  rw [hp] at hw
  obtain ⟨i, -, hi⟩ := List.mem_filterMap.mp hw
  first | exact List.mem_of_getElem? hi | exact List.getElem?_mem hi
theorem ml_td {P : Cond → Prop} (n : Nat) (l : List Cond) (h1 : ∀ w ∈ l.take n, P w) (h2 : ∀ w ∈ l.drop n, P w) : ∀ w ∈ l, P w := fun w h => by
  rw [← List.take_append_drop n l] at h
  exact (List.mem_append.mp h).elim (h1 w) (h2 w)
theorem ml_one {P : Cond → Prop} {c : Cond} {l : List Cond} (h : l = [c]) (hc : P c) : ∀ w ∈ l, P w := fun w hw => by
  rw [h] at hw
  rw [List.mem_singleton.mp hw]; exact hc
set_option maxRecDepth 20000 in
theorem ml_r1 : ∀ w ∈ wsL_law_r1, w ∈ lw_tbl := ml_pos _ [17, 18, 10, 19, 20, 21, 22, 23, 24, 25, 26, 11, 167, 104, 105, 14, 168, 169, 139, 170, 124, 125, 15, 171] (by decide +kernel)
set_option maxRecDepth 20000 in
theorem ml_r2 : ∀ w ∈ wsL_law_r2, w ∈ lw_tbl := ml_pos _ [141, 142, 16, 172, 27, 28, 29, 30, 103, 42, 44, 46, 48, 50, 52, 54, 56, 58, 60, 62, 64, 66, 68, 70] (by decide +kernel)
set_option maxRecDepth 20000 in
theorem ml_r3 : ∀ w ∈ wsL_law_r3, w ∈ lw_tbl := ml_pos _ [34, 35, 36, 37, 12, 38, 39, 41, 40, 13, 106, 107, 108, 109, 110, 113, 114, 115, 112, 127, 128, 129, 140, 130] (by decide +kernel)
set_option maxRecDepth 20000 in
theorem ml_r4 : ∀ w ∈ wsL_law_r4, w ∈ lw_tbl := ml_pos _ [132, 144, 145, 146, 147, 148, 150, 152, 154, 223, 224, 225, 226, 116, 227, 228, 229, 230, 231, 232, 233, 234, 240, 241] (by decide +kernel)
set_option maxRecDepth 20000 in
theorem ml_r5 : ∀ w ∈ wsL_law_r5, w ∈ lw_tbl := ml_pos _ [242, 243, 71, 191, 192, 193, 244, 245, 246, 247, 248, 239, 186, 187, 188, 189, 190, 43, 45, 61, 69, 57, 59, 55] (by decide +kernel)
set_option maxRecDepth 20000 in
theorem ml_r6 : ∀ w ∈ wsL_law_r6, w ∈ lw_tbl := ml_pos _ [67, 133, 194, 195, 196, 197, 198, 199, 200, 201, 202, 203, 204, 205, 206, 207, 208, 220, 221, 222, 209, 210, 211, 212] (by decide +kernel)
set_option maxRecDepth 20000 in
theorem ml_r7 : ∀ w ∈ wsL_law_r7, w ∈ lw_tbl := ml_pos _ [214, 215, 216, 217, 218, 219, 300, 301, 9, 302, 255, 256, 257, 258, 259, 260, 261, 262, 263, 63, 65, 264, 265, 266] (by decide +kernel)
set_option maxRecDepth 20000 in
theorem ml_r8 : ∀ w ∈ wsL_law_r8, w ∈ lw_tbl := ml_pos _ [267, 268, 269, 270, 271, 272, 273, 274, 275, 276, 277, 278, 279, 47, 49, 51, 280, 281, 282, 283, 284, 285, 286, 287] (by decide +kernel)
set_option maxRecDepth 20000 in
theorem ml_r9 : ∀ w ∈ wsL_law_r9, w ∈ lw_tbl := ml_td 8 _ (ml_pos _ [288, 289, 290, 291, 292, 293, 303, 304] (by decide +kernel)) (ml_td 1 _ (ml_one rfl (List.mem_of_getElem? (i := 305) rfl)) (ml_pos _ [306, 307, 308, 309, 310, 312, 314, 315, 316, 317, 318, 319, 320, 321, 322] (by decide +kernel)))
set_option maxRecDepth 20000 in
theorem ml_r10 : ∀ w ∈ wsL_law_r10, w ∈ lw_tbl := ml_pos _ [323, 324, 325, 326, 327, 328, 329, 330, 332, 0, 333, 334, 335, 336, 337, 338, 339, 340, 341, 342, 343, 344, 345, 346] (by decide +kernel)
set_option maxRecDepth 20000 in
theorem ml_r11 : ∀ w ∈ wsL_law_r11, w ∈ lw_tbl := ml_pos _ [347, 348, 349, 350, 351, 352, 353, 354, 355, 356, 357, 358, 359, 360, 361, 362, 363, 364, 365, 366, 367, 368, 369, 370] (by decide +kernel)
set_option maxRecDepth 20000 in
theorem ml_r12 : ∀ w ∈ wsL_law_r12, w ∈ lw_tbl := ml_pos _ [371, 372, 373, 374, 375, 376, 377, 378, 379, 380, 381, 382, 383, 384, 385, 386, 387, 388, 389, 390, 391, 392, 235, 236] (by decide +kernel)
set_option maxRecDepth 20000 in
theorem ml_r13 : ∀ w ∈ wsL_law_r13, w ∈ lw_tbl := ml_pos _ [237, 238, 393, 394, 395, 396, 397, 398, 399, 400, 131, 401, 402, 403, 404, 405, 406, 407, 408, 409, 410, 411, 412, 413] (by decide +kernel)
set_option maxRecDepth 20000 in
theorem ml_r14 : ∀ w ∈ wsL_law_r14, w ∈ lw_tbl := ml_pos _ [415, 1, 416, 417, 418, 419, 421, 423, 2, 424, 425, 427, 3, 428, 429, 431, 4, 432, 433, 435, 5, 436, 437, 439] (by decide +kernel)
set_option maxRecDepth 20000 in
theorem ml_r15 : ∀ w ∈ wsL_law_r15, w ∈ lw_tbl := ml_pos _ [6, 440, 441, 443, 7, 444, 445, 446, 447, 448, 449, 451, 8, 452, 151, 149, 155, 153, 453, 249, 250, 251, 252, 253] (by decide +kernel)
set_option maxRecDepth 20000 in
theorem ml_r16 : ∀ w ∈ wsL_law_r16, w ∈ lw_tbl := ml_td 3 _ (ml_pos _ [254, 454, 455] (by decide +kernel)) (ml_td 1 _ (ml_one rfl (List.mem_of_getElem? (i := 456) rfl)) (ml_td 11 _ (ml_pos _ [457, 458, 459, 460, 53, 461, 462, 463, 464, 294, 295] (by decide +kernel)) (ml_td 1 _ (ml_one rfl (List.mem_of_getElem? (i := 296) rfl)) (ml_pos _ [297, 298, 299] (by decide +kernel)))))
set_option maxRecDepth 20000 in
theorem inX0 : ∀ w ∈ wsX00, w ∈ lw_tbl := ml_pos _ [117, 119, 121] (by decide +kernel)
set_option maxRecDepth 20000 in
theorem inX1 : ∀ w ∈ wsX10, w ∈ lw_tbl := ml_pos _ [134, 136] (by decide +kernel)
set_option maxRecDepth 20000 in
theorem inX2 : ∀ w ∈ wsX20, w ∈ lw_tbl := ml_pos _ [156, 158, 160, 162, 164] (by decide +kernel)
set_option maxRecDepth 20000 in
theorem inX3 : ∀ w ∈ wsX30, w ∈ lw_tbl := ml_pos _ [72, 74, 76, 78, 80, 82, 84, 86, 88, 90, 92, 94, 96, 98, 100] (by decide +kernel)
set_option maxRecDepth 20000 in
theorem inX4 : ∀ w ∈ wsX40, w ∈ lw_tbl := ml_pos _ [173, 175, 177, 179, 181, 183] (by decide +kernel)
theorem wsL_law_in : ∀ w ∈ wsL_law, w ∈ lw_tbl := List.forall_mem_append.mpr ⟨List.forall_mem_append.mpr ⟨List.forall_mem_append.mpr ⟨List.forall_mem_append.mpr ⟨List.forall_mem_append.mpr ⟨List.forall_mem_append.mpr ⟨List.forall_mem_append.mpr ⟨ml_r1, List.forall_mem_append.mpr ⟨ml_r2, List.forall_mem_append.mpr ⟨ml_r3, List.forall_mem_append.mpr ⟨ml_r4, List.forall_mem_append.mpr ⟨ml_r5, List.forall_mem_append.mpr ⟨ml_r6, List.forall_mem_append.mpr ⟨ml_r7, List.forall_mem_append.mpr ⟨ml_r8, List.forall_mem_append.mpr ⟨ml_r9, List.forall_mem_append.mpr ⟨ml_r10, List.forall_mem_append.mpr ⟨ml_r11, List.forall_mem_append.mpr ⟨ml_r12, List.forall_mem_append.mpr ⟨ml_r13, List.forall_mem_append.mpr ⟨ml_r14, List.forall_mem_append.mpr ⟨ml_r15, ml_r16⟩⟩⟩⟩⟩⟩⟩⟩⟩⟩⟩⟩⟩⟩⟩, inX4⟩, inX3⟩, inX0⟩, inX1⟩, inX2⟩, fun _ h => absurd h List.not_mem_nil⟩
end
section
theorem inlX0 : ∀ w ∈ wsX00, w ∈ wsL_law := fun _ h => List.mem_append_left _ (List.mem_append_left _ (List.mem_append_left _ (List.mem_append_right _ h)))
set_option maxRecDepth 20000 in
theorem ggX0_init_X3_init : GoodIn wsX0_init wsX3_init := goodIn_r _ [12, 13, 2, 3, 14, 15, 16, 17, 18, 19, 20, 21, 22, 23, 24, 25, 26, 27, 28, 29, 30, 31, 32, 33, 34, 35, 36, 37, 38, 39, 40, 44, 45, 46, 47, 48, 49, 50, 51, 52, 53, 54, 55, 56, 57, 58] (by decide +kernel) (by decide +kernel)
set_option maxRecDepth 20000 in
theorem gX0_init_X3_init : GoodIn wsX0_init (wsX3_init) := ggX0_init_X3_init
theorem dX0_init_0 : decode cX0_init 0 = .ok (.aload_n 0, 1) := by decide +kernel
theorem dX0_init_1 : decode cX0_init 1 = .ok (.invokespecial 3, 3) := by decide +kernel
theorem dX0_init_4 : decode cX0_init 4 = .ok (.aload_n 0, 1) := by decide +kernel
theorem dX0_init_5 : decode cX0_init 5 = .ok (.bipush 6, 2) := by decide +kernel
theorem dX0_init_7 : decode cX0_init 7 = .ok (.anewarray 9, 3) := by decide +kernel
theorem dX0_init_10 : decode cX0_init 10 = .ok (.putfield 11, 3) := by decide +kernel
theorem dX0_init_13 : decode cX0_init 13 = .ok (.aload_n 0, 1) := by decide +kernel
theorem dX0_init_14 : decode cX0_init 14 = .ok (.iconst 0, 1) := by decide +kernel
theorem dX0_init_15 : decode cX0_init 15 = .ok (.putfield 17, 3) := by decide +kernel
theorem dX0_init_18 : decode cX0_init 18 = .ok (.aload_n 0, 1) := by decide +kernel
theorem dX0_init_19 : decode cX0_init 19 = .ok (.iconst 0, 1) := by decide +kernel
theorem dX0_init_20 : decode cX0_init 20 = .ok (.putfield 21, 3) := by decide +kernel
theorem dX0_init_23 : decode cX0_init 23 = .ok (.iconst 0, 1) := by decide +kernel
theorem dX0_init_24 : decode cX0_init 24 = .ok (.istore_n 1, 1) := by decide +kernel
theorem dX0_init_25 : decode cX0_init 25 = .ok (.iload_n 1, 1) := by decide +kernel
theorem dX0_init_26 : decode cX0_init 26 = .ok (.bipush 6, 2) := by decide +kernel
theorem dX0_init_28 : decode cX0_init 28 = .ok (.if_icmp .ge 22, 3) := by decide +kernel
theorem dX0_init_31 : decode cX0_init 31 = .ok (.aload_n 0, 1) := by decide +kernel
theorem dX0_init_32 : decode cX0_init 32 = .ok (.getfield 11, 3) := by decide +kernel
theorem dX0_init_35 : decode cX0_init 35 = .ok (.iload_n 1, 1) := by decide +kernel
theorem dX0_init_36 : decode cX0_init 36 = .ok (.new 9, 3) := by decide +kernel
theorem dX0_init_39 : decode cX0_init 39 = .ok (.dup, 1) := by decide +kernel
theorem dX0_init_40 : decode cX0_init 40 = .ok (.invokespecial 24, 3) := by decide +kernel
theorem dX0_init_43 : decode cX0_init 43 = .ok (.aastore, 1) := by decide +kernel
theorem dX0_init_44 : decode cX0_init 44 = .ok (.iinc 1 1, 3) := by decide +kernel
theorem dX0_init_47 : decode cX0_init 47 = .ok (.goto (-22), 3) := by decide +kernel
theorem dX0_init_50 : decode cX0_init 50 = .ok (.return_, 1) := by decide +kernel
set_option maxRecDepth 20000 in
theorem ggX0_keep_X3_become : GoodIn wsX0_keep wsX3_become := goodIn_r _ [12, 13, 14, 15, 16, 17, 18, 19, 20, 21, 22, 23, 24, 25, 26, 27, 28, 29, 30, 31, 5, 6, 7, 32, 33, 34, 35, 39, 40, 41, 42, 43, 44, 45, 46, 47, 48, 49, 50, 51, 52, 53] (by decide +kernel) (by decide +kernel)
set_option maxRecDepth 20000 in
theorem gX0_keep_X3_become : GoodIn wsX0_keep (wsV RX0 25 RX3 yX3_become wsX3_become) := goodIn_app (goodIn_of _ (by decide +kernel)) ggX0_keep_X3_become
theorem dX0_keep_0 : decode cX0_keep 0 = .ok (.aload_n 0, 1) := by decide +kernel
theorem dX0_keep_1 : decode cX0_keep 1 = .ok (.getfield 11, 3) := by decide +kernel
theorem dX0_keep_4 : decode cX0_keep 4 = .ok (.aload_n 0, 1) := by decide +kernel
theorem dX0_keep_5 : decode cX0_keep 5 = .ok (.getfield 17, 3) := by decide +kernel
theorem dX0_keep_8 : decode cX0_keep 8 = .ok (.aaload, 1) := by decide +kernel
theorem dX0_keep_9 : decode cX0_keep 9 = .ok (.aload_n 1, 1) := by decide +kernel
theorem dX0_keep_10 : decode cX0_keep 10 = .ok (.invokevirtual 25, 3) := by decide +kernel
theorem dX0_keep_13 : decode cX0_keep 13 = .ok (.aload_n 0, 1) := by decide +kernel
theorem dX0_keep_14 : decode cX0_keep 14 = .ok (.aload_n 0, 1) := by decide +kernel
theorem dX0_keep_15 : decode cX0_keep 15 = .ok (.getfield 17, 3) := by decide +kernel
theorem dX0_keep_18 : decode cX0_keep 18 = .ok (.iconst 1, 1) := by decide +kernel
theorem dX0_keep_19 : decode cX0_keep 19 = .ok (.iadd, 1) := by decide +kernel
theorem dX0_keep_20 : decode cX0_keep 20 = .ok (.bipush 6, 2) := by decide +kernel
theorem dX0_keep_22 : decode cX0_keep 22 = .ok (.irem, 1) := by decide +kernel
theorem dX0_keep_23 : decode cX0_keep 23 = .ok (.putfield 17, 3) := by decide +kernel
theorem dX0_keep_26 : decode cX0_keep 26 = .ok (.aload_n 0, 1) := by decide +kernel
theorem dX0_keep_27 : decode cX0_keep 27 = .ok (.bipush 6, 2) := by decide +kernel
theorem dX0_keep_29 : decode cX0_keep 29 = .ok (.aload_n 0, 1) := by decide +kernel
theorem dX0_keep_30 : decode cX0_keep 30 = .ok (.getfield 21, 3) := by decide +kernel
theorem dX0_keep_33 : decode cX0_keep 33 = .ok (.iconst 1, 1) := by decide +kernel
theorem dX0_keep_34 : decode cX0_keep 34 = .ok (.iadd, 1) := by decide +kernel
theorem dX0_keep_35 : decode cX0_keep 35 = .ok (.invokestatic 29, 3) := by decide +kernel
theorem dX0_keep_38 : decode cX0_keep 38 = .ok (.putfield 21, 3) := by decide +kernel
theorem dX0_keep_41 : decode cX0_keep 41 = .ok (.return_, 1) := by decide +kernel
set_option maxRecDepth 20000 in
theorem ggX0_takeBack_X3_become : GoodIn wsX0_takeBack wsX3_become := goodIn_r _ [8, 9, 10, 11, 12, 13, 14, 15, 16, 17, 18, 19, 20, 21, 22, 23, 24, 25, 26, 27, 28, 29, 30, 31, 32, 33, 34, 38, 39, 40, 41, 42, 43, 44, 45, 46, 47, 48, 49, 50, 51, 52] (by decide +kernel) (by decide +kernel)
set_option maxRecDepth 20000 in
theorem gX0_takeBack_X3_become : GoodIn wsX0_takeBack (wsV RX0 25 RX3 yX3_become wsX3_become) := goodIn_app (goodIn_of _ (by decide +kernel)) ggX0_takeBack_X3_become
theorem dX0_takeBack_0 : decode cX0_takeBack 0 = .ok (.aload_n 0, 1) := by decide +kernel
theorem dX0_takeBack_1 : decode cX0_takeBack 1 = .ok (.aload_n 0, 1) := by decide +kernel
theorem dX0_takeBack_2 : decode cX0_takeBack 2 = .ok (.getfield 17, 3) := by decide +kernel
theorem dX0_takeBack_5 : decode cX0_takeBack 5 = .ok (.bipush 6, 2) := by decide +kernel
theorem dX0_takeBack_7 : decode cX0_takeBack 7 = .ok (.iadd, 1) := by decide +kernel
theorem dX0_takeBack_8 : decode cX0_takeBack 8 = .ok (.iconst 1, 1) := by decide +kernel
theorem dX0_takeBack_9 : decode cX0_takeBack 9 = .ok (.isub, 1) := by decide +kernel
theorem dX0_takeBack_10 : decode cX0_takeBack 10 = .ok (.bipush 6, 2) := by decide +kernel
theorem dX0_takeBack_12 : decode cX0_takeBack 12 = .ok (.irem, 1) := by decide +kernel
theorem dX0_takeBack_13 : decode cX0_takeBack 13 = .ok (.putfield 17, 3) := by decide +kernel
theorem dX0_takeBack_16 : decode cX0_takeBack 16 = .ok (.aload_n 0, 1) := by decide +kernel
theorem dX0_takeBack_17 : decode cX0_takeBack 17 = .ok (.dup, 1) := by decide +kernel
theorem dX0_takeBack_18 : decode cX0_takeBack 18 = .ok (.getfield 21, 3) := by decide +kernel
theorem dX0_takeBack_21 : decode cX0_takeBack 21 = .ok (.iconst 1, 1) := by decide +kernel
theorem dX0_takeBack_22 : decode cX0_takeBack 22 = .ok (.isub, 1) := by decide +kernel
theorem dX0_takeBack_23 : decode cX0_takeBack 23 = .ok (.putfield 21, 3) := by decide +kernel
theorem dX0_takeBack_26 : decode cX0_takeBack 26 = .ok (.aload_n 1, 1) := by decide +kernel
theorem dX0_takeBack_27 : decode cX0_takeBack 27 = .ok (.aload_n 0, 1) := by decide +kernel
theorem dX0_takeBack_28 : decode cX0_takeBack 28 = .ok (.getfield 11, 3) := by decide +kernel
theorem dX0_takeBack_31 : decode cX0_takeBack 31 = .ok (.aload_n 0, 1) := by decide +kernel
theorem dX0_takeBack_32 : decode cX0_takeBack 32 = .ok (.getfield 17, 3) := by decide +kernel
theorem dX0_takeBack_35 : decode cX0_takeBack 35 = .ok (.aaload, 1) := by decide +kernel
theorem dX0_takeBack_36 : decode cX0_takeBack 36 = .ok (.invokevirtual 25, 3) := by decide +kernel
theorem dX0_takeBack_39 : decode cX0_takeBack 39 = .ok (.return_, 1) := by decide +kernel
theorem inlX1 : ∀ w ∈ wsX10, w ∈ wsL_law := fun _ h => List.mem_append_left _ (List.mem_append_left _ (List.mem_append_right _ h))
theorem dX1_init_0 : decode cX1_init 0 = .ok (.aload_n 0, 1) := by decide +kernel
theorem dX1_init_1 : decode cX1_init 1 = .ok (.invokespecial 3, 3) := by decide +kernel
theorem dX1_init_4 : decode cX1_init 4 = .ok (.aload_n 0, 1) := by decide +kernel
theorem dX1_init_5 : decode cX1_init 5 = .ok (.bipush 60, 2) := by decide +kernel
theorem dX1_init_7 : decode cX1_init 7 = .ok (.newarray .char, 2) := by decide +kernel
theorem dX1_init_9 : decode cX1_init 9 = .ok (.putfield 9, 3) := by decide +kernel
theorem dX1_init_12 : decode cX1_init 12 = .ok (.aload_n 0, 1) := by decide +kernel
theorem dX1_init_13 : decode cX1_init 13 = .ok (.iconst 0, 1) := by decide +kernel
theorem dX1_init_14 : decode cX1_init 14 = .ok (.putfield 15, 3) := by decide +kernel
theorem dX1_init_17 : decode cX1_init 17 = .ok (.return_, 1) := by decide +kernel
theorem inlX2 : ∀ w ∈ wsX20, w ∈ wsL_law := fun _ h => List.mem_append_left _ (List.mem_append_right _ h)
theorem dX2_init_0 : decode cX2_init 0 = .ok (.aload_n 0, 1) := by decide +kernel
theorem dX2_init_1 : decode cX2_init 1 = .ok (.invokespecial 3, 3) := by decide +kernel
theorem dX2_init_4 : decode cX2_init 4 = .ok (.aload_n 0, 1) := by decide +kernel
theorem dX2_init_5 : decode cX2_init 5 = .ok (.iconst 0, 1) := by decide +kernel
theorem dX2_init_6 : decode cX2_init 6 = .ok (.putfield 11, 3) := by decide +kernel
theorem dX2_init_9 : decode cX2_init 9 = .ok (.aload_n 0, 1) := by decide +kernel
theorem dX2_init_10 : decode cX2_init 10 = .ok (.iconst 0, 1) := by decide +kernel
theorem dX2_init_11 : decode cX2_init 11 = .ok (.putfield 15, 3) := by decide +kernel
theorem dX2_init_14 : decode cX2_init 14 = .ok (.aload_n 0, 1) := by decide +kernel
theorem dX2_init_15 : decode cX2_init 15 = .ok (.iconst 0, 1) := by decide +kernel
theorem dX2_init_16 : decode cX2_init 16 = .ok (.putfield 18, 3) := by decide +kernel
theorem dX2_init_19 : decode cX2_init 19 = .ok (.aload_n 0, 1) := by decide +kernel
theorem dX2_init_20 : decode cX2_init 20 = .ok (.iconst 0, 1) := by decide +kernel
theorem dX2_init_21 : decode cX2_init 21 = .ok (.putfield 21, 3) := by decide +kernel
theorem dX2_init_24 : decode cX2_init 24 = .ok (.aload_n 0, 1) := by decide +kernel
theorem dX2_init_25 : decode cX2_init 25 = .ok (.bipush (-6), 2) := by decide +kernel
theorem dX2_init_27 : decode cX2_init 27 = .ok (.putfield 24, 3) := by decide +kernel
theorem dX2_init_30 : decode cX2_init 30 = .ok (.return_, 1) := by decide +kernel
theorem dX2_begin_0 : decode cX2_begin 0 = .ok (.aload_n 0, 1) := by decide +kernel
theorem dX2_begin_1 : decode cX2_begin 1 = .ok (.iconst 0, 1) := by decide +kernel
theorem dX2_begin_2 : decode cX2_begin 2 = .ok (.putfield 11, 3) := by decide +kernel
theorem dX2_begin_5 : decode cX2_begin 5 = .ok (.aload_n 0, 1) := by decide +kernel
theorem dX2_begin_6 : decode cX2_begin 6 = .ok (.bipush (-6), 2) := by decide +kernel
theorem dX2_begin_8 : decode cX2_begin 8 = .ok (.putfield 24, 3) := by decide +kernel
theorem dX2_begin_11 : decode cX2_begin 11 = .ok (.return_, 1) := by decide +kernel
set_option maxRecDepth 20000 in
theorem ggX2_takes_X2_takesPupil : GoodIn wsX2_takes wsX2_takesPupil := goodIn_r _ [7, 8, 9, 10, 6, 11, 12, 13, 14, 15, 16, 17, 18, 1, 41, 42, 43, 44, 45] (by decide +kernel) (by decide +kernel)
set_option maxRecDepth 20000 in
theorem gX2_takes_X2_takesPupil : GoodIn wsX2_takes (wsV RX2 27 RX2 yX2_takesPupil wsX2_takesPupil) := goodIn_app (goodIn_of _ (by decide +kernel)) ggX2_takes_X2_takesPupil
set_option maxRecDepth 20000 in
theorem ggX2_takes_X2_takesExcuse : GoodIn wsX2_takes wsX2_takesExcuse := goodIn_r _ [22, 23, 12, 13, 14, 15, 16, 17, 6, 18, 1, 41, 42, 43, 44, 45] (by decide +kernel) (by decide +kernel)
set_option maxRecDepth 20000 in
theorem gX2_takes_X2_takesExcuse : GoodIn wsX2_takes (wsV RX2 31 RX2 yX2_takesExcuse wsX2_takesExcuse) := goodIn_app (goodIn_of _ (by decide +kernel)) ggX2_takes_X2_takesExcuse
set_option maxRecDepth 20000 in
theorem ggX2_takes_X2_goesOn : GoodIn wsX2_takes wsX2_goesOn := goodIn_r _ [18, 1, 41, 42, 43, 44, 45] (by decide +kernel) (by decide +kernel)
set_option maxRecDepth 20000 in
theorem gX2_takes_X2_goesOn : GoodIn wsX2_takes (wsV RX2 34 RX2 yX2_goesOn wsX2_goesOn) := goodIn_app (goodIn_of _ (by decide +kernel)) ggX2_takes_X2_goesOn
set_option maxRecDepth 20000 in
theorem ggX2_takes_X2_takesMinutes : GoodIn wsX2_takes wsX2_takesMinutes := goodIn_r _ [27, 2, 9, 10, 6, 11, 12, 13, 14, 15, 16, 17, 18, 1, 41, 42, 43, 44, 45] (by decide +kernel) (by decide +kernel)
set_option maxRecDepth 20000 in
theorem gX2_takes_X2_takesMinutes : GoodIn wsX2_takes (wsV RX2 38 RX2 yX2_takesMinutes wsX2_takesMinutes) := goodIn_app (goodIn_of _ (by decide +kernel)) ggX2_takes_X2_takesMinutes
set_option maxRecDepth 20000 in
theorem ggX2_takes_X2_takesAfterMinutes : GoodIn wsX2_takes wsX2_takesAfterMinutes := goodIn_r _ [31, 15, 16, 17, 6, 18, 1, 32, 33, 34, 35, 36, 41, 42, 43, 44, 45] (by decide +kernel) (by decide +kernel)
set_option maxRecDepth 20000 in
theorem gX2_takes_X2_takesAfterMinutes : GoodIn wsX2_takes (wsV RX2 42 RX2 yX2_takesAfterMinutes wsX2_takesAfterMinutes) := goodIn_app (goodIn_of _ (by decide +kernel)) ggX2_takes_X2_takesAfterMinutes
set_option maxRecDepth 20000 in
theorem ggX2_takes_X2_takesWitness : GoodIn wsX2_takes wsX2_takesWitness := goodIn_r _ [40, 8, 36, 9, 10, 6, 11, 12, 13, 14, 15, 16, 17, 18, 1, 41, 42, 43, 44, 45] (by decide +kernel) (by decide +kernel)
set_option maxRecDepth 20000 in
theorem gX2_takes_X2_takesWitness : GoodIn wsX2_takes (wsV RX2 45 RX2 yX2_takesWitness wsX2_takesWitness) := goodIn_app (goodIn_of _ (by decide +kernel)) ggX2_takes_X2_takesWitness
set_option maxRecDepth 20000 in
theorem ggX2_takes_X2_takesComma : GoodIn wsX2_takes wsX2_takesComma := goodIn_r _ [35, 36, 15, 16, 17, 6, 18, 1, 41, 42, 43, 44, 45] (by decide +kernel) (by decide +kernel)
set_option maxRecDepth 20000 in
theorem gX2_takes_X2_takesComma : GoodIn wsX2_takes (wsV RX2 48 RX2 yX2_takesComma wsX2_takesComma) := goodIn_app (goodIn_of _ (by decide +kernel)) ggX2_takes_X2_takesComma
theorem dX2_takes_0 : decode cX2_takes 0 = .ok (.aload_n 0, 1) := by decide +kernel
theorem dX2_takes_1 : decode cX2_takes 1 = .ok (.getfield 11, 3) := by decide +kernel
theorem dX2_takes_4 : decode cX2_takes 4 = .ok (.tableswitch 134 0 6 #[44, 50, 56, 73, 95, 122, 128], 44) := by decide +kernel
theorem dX2_takes_48 : decode cX2_takes 48 = .ok (.aload_n 0, 1) := by decide +kernel
theorem dX2_takes_49 : decode cX2_takes 49 = .ok (.iload_n 1, 1) := by decide +kernel
theorem dX2_takes_50 : decode cX2_takes 50 = .ok (.invokevirtual 27, 3) := by decide +kernel
theorem dX2_takes_53 : decode cX2_takes 53 = .ok (.ireturn, 1) := by decide +kernel
theorem dX2_takes_54 : decode cX2_takes 54 = .ok (.aload_n 0, 1) := by decide +kernel
theorem dX2_takes_55 : decode cX2_takes 55 = .ok (.iload_n 1, 1) := by decide +kernel
theorem dX2_takes_56 : decode cX2_takes 56 = .ok (.invokevirtual 31, 3) := by decide +kernel
theorem dX2_takes_59 : decode cX2_takes 59 = .ok (.ireturn, 1) := by decide +kernel
theorem dX2_takes_60 : decode cX2_takes 60 = .ok (.aload_n 0, 1) := by decide +kernel
theorem dX2_takes_61 : decode cX2_takes 61 = .ok (.iload_n 1, 1) := by decide +kernel
theorem dX2_takes_62 : decode cX2_takes 62 = .ok (.bipush 109, 2) := by decide +kernel
theorem dX2_takes_64 : decode cX2_takes 64 = .ok (.if_icmp .ne 7, 3) := by decide +kernel
theorem dX2_takes_67 : decode cX2_takes 67 = .ok (.iconst 1, 1) := by decide +kernel
theorem dX2_takes_68 : decode cX2_takes 68 = .ok (.goto 4, 3) := by decide +kernel
theorem dX2_takes_71 : decode cX2_takes 71 = .ok (.iconst 0, 1) := by decide +kernel
theorem dX2_takes_72 : decode cX2_takes 72 = .ok (.iconst 3, 1) := by decide +kernel
theorem dX2_takes_73 : decode cX2_takes 73 = .ok (.invokevirtual 34, 3) := by decide +kernel
theorem dX2_takes_76 : decode cX2_takes 76 = .ok (.ireturn, 1) := by decide +kernel
theorem dX2_takes_77 : decode cX2_takes 77 = .ok (.iload_n 1, 1) := by decide +kernel
theorem dX2_takes_78 : decode cX2_takes 78 = .ok (.bipush 48, 2) := by decide +kernel
theorem dX2_takes_80 : decode cX2_takes 80 = .ok (.if_icmp .eq 17, 3) := by decide +kernel
theorem dX2_takes_83 : decode cX2_takes 83 = .ok (.aload_n 0, 1) := by decide +kernel
theorem dX2_takes_84 : decode cX2_takes 84 = .ok (.iload_n 1, 1) := by decide +kernel
theorem dX2_takes_85 : decode cX2_takes 85 = .ok (.iconst 0, 1) := by decide +kernel
theorem dX2_takes_86 : decode cX2_takes 86 = .ok (.iconst 4, 1) := by decide +kernel
theorem dX2_takes_87 : decode cX2_takes 87 = .ok (.invokevirtual 38, 3) := by decide +kernel
theorem dX2_takes_90 : decode cX2_takes 90 = .ok (.ifCond .eq 7, 3) := by decide +kernel
theorem dX2_takes_93 : decode cX2_takes 93 = .ok (.iconst 1, 1) := by decide +kernel
theorem dX2_takes_94 : decode cX2_takes 94 = .ok (.goto 4, 3) := by decide +kernel
theorem dX2_takes_97 : decode cX2_takes 97 = .ok (.iconst 0, 1) := by decide +kernel
theorem dX2_takes_98 : decode cX2_takes 98 = .ok (.ireturn, 1) := by decide +kernel
theorem dX2_takes_99 : decode cX2_takes 99 = .ok (.aload_n 0, 1) := by decide +kernel
theorem dX2_takes_100 : decode cX2_takes 100 = .ok (.iload_n 1, 1) := by decide +kernel
theorem dX2_takes_101 : decode cX2_takes 101 = .ok (.aload_n 0, 1) := by decide +kernel
theorem dX2_takes_102 : decode cX2_takes 102 = .ok (.getfield 21, 3) := by decide +kernel
theorem dX2_takes_105 : decode cX2_takes 105 = .ok (.iconst 5, 1) := by decide +kernel
theorem dX2_takes_106 : decode cX2_takes 106 = .ok (.invokevirtual 38, 3) := by decide +kernel
theorem dX2_takes_109 : decode cX2_takes 109 = .ok (.ifCond .ne 11, 3) := by decide +kernel
theorem dX2_takes_112 : decode cX2_takes 112 = .ok (.aload_n 0, 1) := by decide +kernel
theorem dX2_takes_113 : decode cX2_takes 113 = .ok (.iload_n 1, 1) := by decide +kernel
theorem dX2_takes_114 : decode cX2_takes 114 = .ok (.invokevirtual 42, 3) := by decide +kernel
theorem dX2_takes_117 : decode cX2_takes 117 = .ok (.ifCond .eq 7, 3) := by decide +kernel
theorem dX2_takes_120 : decode cX2_takes 120 = .ok (.iconst 1, 1) := by decide +kernel
theorem dX2_takes_121 : decode cX2_takes 121 = .ok (.goto 4, 3) := by decide +kernel
theorem dX2_takes_124 : decode cX2_takes 124 = .ok (.iconst 0, 1) := by decide +kernel
theorem dX2_takes_125 : decode cX2_takes 125 = .ok (.ireturn, 1) := by decide +kernel
theorem dX2_takes_126 : decode cX2_takes 126 = .ok (.aload_n 0, 1) := by decide +kernel
theorem dX2_takes_127 : decode cX2_takes 127 = .ok (.iload_n 1, 1) := by decide +kernel
theorem dX2_takes_128 : decode cX2_takes 128 = .ok (.invokevirtual 42, 3) := by decide +kernel
theorem dX2_takes_131 : decode cX2_takes 131 = .ok (.ireturn, 1) := by decide +kernel
theorem dX2_takes_132 : decode cX2_takes 132 = .ok (.aload_n 0, 1) := by decide +kernel
theorem dX2_takes_133 : decode cX2_takes 133 = .ok (.iload_n 1, 1) := by decide +kernel
theorem dX2_takes_134 : decode cX2_takes 134 = .ok (.invokevirtual 45, 3) := by decide +kernel
theorem dX2_takes_137 : decode cX2_takes 137 = .ok (.ireturn, 1) := by decide +kernel
theorem dX2_takes_138 : decode cX2_takes 138 = .ok (.aload_n 0, 1) := by decide +kernel
theorem dX2_takes_139 : decode cX2_takes 139 = .ok (.iload_n 1, 1) := by decide +kernel
theorem dX2_takes_140 : decode cX2_takes 140 = .ok (.invokevirtual 48, 3) := by decide +kernel
theorem dX2_takes_143 : decode cX2_takes 143 = .ok (.ireturn, 1) := by decide +kernel
theorem dX2_canEnd_0 : decode cX2_canEnd 0 = .ok (.aload_n 0, 1) := by decide +kernel
theorem dX2_canEnd_1 : decode cX2_canEnd 1 = .ok (.getfield 11, 3) := by decide +kernel
theorem dX2_canEnd_4 : decode cX2_canEnd 4 = .ok (.iconst 4, 1) := by decide +kernel
theorem dX2_canEnd_5 : decode cX2_canEnd 5 = .ok (.if_icmp .eq 20, 3) := by decide +kernel
theorem dX2_canEnd_8 : decode cX2_canEnd 8 = .ok (.aload_n 0, 1) := by decide +kernel
theorem dX2_canEnd_9 : decode cX2_canEnd 9 = .ok (.getfield 11, 3) := by decide +kernel
theorem dX2_canEnd_12 : decode cX2_canEnd 12 = .ok (.iconst 5, 1) := by decide +kernel
theorem dX2_canEnd_13 : decode cX2_canEnd 13 = .ok (.if_icmp .eq 12, 3) := by decide +kernel
theorem dX2_canEnd_16 : decode cX2_canEnd 16 = .ok (.aload_n 0, 1) := by decide +kernel
theorem dX2_canEnd_17 : decode cX2_canEnd 17 = .ok (.getfield 11, 3) := by decide +kernel
theorem dX2_canEnd_20 : decode cX2_canEnd 20 = .ok (.bipush 7, 2) := by decide +kernel
theorem dX2_canEnd_22 : decode cX2_canEnd 22 = .ok (.if_icmp .ne 7, 3) := by decide +kernel
theorem dX2_canEnd_25 : decode cX2_canEnd 25 = .ok (.iconst 1, 1) := by decide +kernel
theorem dX2_canEnd_26 : decode cX2_canEnd 26 = .ok (.goto 4, 3) := by decide +kernel
theorem dX2_canEnd_29 : decode cX2_canEnd 29 = .ok (.iconst 0, 1) := by decide +kernel
theorem dX2_canEnd_30 : decode cX2_canEnd 30 = .ok (.ireturn, 1) := by decide +kernel
theorem dX2_goesOn_0 : decode cX2_goesOn 0 = .ok (.iload_n 1, 1) := by decide +kernel
theorem dX2_goesOn_1 : decode cX2_goesOn 1 = .ok (.ifCond .eq 8, 3) := by decide +kernel
theorem dX2_goesOn_4 : decode cX2_goesOn 4 = .ok (.aload_n 0, 1) := by decide +kernel
theorem dX2_goesOn_5 : decode cX2_goesOn 5 = .ok (.iload_n 2, 1) := by decide +kernel
theorem dX2_goesOn_6 : decode cX2_goesOn 6 = .ok (.putfield 11, 3) := by decide +kernel
theorem dX2_goesOn_9 : decode cX2_goesOn 9 = .ok (.iload_n 1, 1) := by decide +kernel
theorem dX2_goesOn_10 : decode cX2_goesOn 10 = .ok (.ireturn, 1) := by decide +kernel
set_option maxRecDepth 20000 in
theorem ggX2_takesPupil_X2_isDigit : GoodIn wsX2_takesPupil wsX2_isDigit := goodIn_r _ [5, 6, 7, 8] (by decide +kernel) (by decide +kernel)
set_option maxRecDepth 20000 in
theorem gX2_takesPupil_X2_isDigit : GoodIn wsX2_takesPupil (va_wsS RX2 51 yX2_isDigit wsX2_isDigit) := goodIn_app (goodIn_of _ (by decide +kernel)) ggX2_takesPupil_X2_isDigit
set_option maxRecDepth 20000 in
theorem ggX2_takesPupil_X2_goesOn : GoodIn wsX2_takesPupil wsX2_goesOn := goodIn_r _ [12, 13, 14, 15, 16, 17, 18] (by decide +kernel) (by decide +kernel)
set_option maxRecDepth 20000 in
theorem gX2_takesPupil_X2_goesOn : GoodIn wsX2_takesPupil (wsV RX2 34 RX2 yX2_goesOn wsX2_goesOn) := goodIn_app (goodIn_of _ (by decide +kernel)) ggX2_takesPupil_X2_goesOn
theorem dX2_takesPupil_0 : decode cX2_takesPupil 0 = .ok (.iload_n 1, 1) := by decide +kernel
theorem dX2_takesPupil_1 : decode cX2_takesPupil 1 = .ok (.invokestatic 51, 3) := by decide +kernel
theorem dX2_takesPupil_4 : decode cX2_takesPupil 4 = .ok (.ifCond .eq 11, 3) := by decide +kernel
theorem dX2_takesPupil_7 : decode cX2_takesPupil 7 = .ok (.aload_n 0, 1) := by decide +kernel
theorem dX2_takesPupil_8 : decode cX2_takesPupil 8 = .ok (.iload_n 1, 1) := by decide +kernel
theorem dX2_takesPupil_9 : decode cX2_takesPupil 9 = .ok (.bipush 48, 2) := by decide +kernel
theorem dX2_takesPupil_11 : decode cX2_takesPupil 11 = .ok (.isub, 1) := by decide +kernel
theorem dX2_takesPupil_12 : decode cX2_takesPupil 12 = .ok (.putfield 15, 3) := by decide +kernel
theorem dX2_takesPupil_15 : decode cX2_takesPupil 15 = .ok (.aload_n 0, 1) := by decide +kernel
theorem dX2_takesPupil_16 : decode cX2_takesPupil 16 = .ok (.iload_n 1, 1) := by decide +kernel
theorem dX2_takesPupil_17 : decode cX2_takesPupil 17 = .ok (.invokestatic 51, 3) := by decide +kernel
theorem dX2_takesPupil_20 : decode cX2_takesPupil 20 = .ok (.iconst 1, 1) := by decide +kernel
theorem dX2_takesPupil_21 : decode cX2_takesPupil 21 = .ok (.invokevirtual 34, 3) := by decide +kernel
theorem dX2_takesPupil_24 : decode cX2_takesPupil 24 = .ok (.ireturn, 1) := by decide +kernel
set_option maxRecDepth 20000 in
theorem ggX2_takesExcuse_X4_isWithin : GoodIn wsX2_takesExcuse wsX4_isWithin := goodIn_r _ [4] (by decide +kernel) (by decide +kernel)
set_option maxRecDepth 20000 in
theorem gX2_takesExcuse_X4_isWithin_n54 : GoodIn wsX2_takesExcuse (wsX4_isWithin) := ggX2_takesExcuse_X4_isWithin
set_option maxRecDepth 20000 in
theorem ggX2_takesExcuse_X2_goesOn : GoodIn wsX2_takesExcuse wsX2_goesOn := goodIn_r _ [9, 10, 11, 12, 13, 14, 15] (by decide +kernel) (by decide +kernel)
set_option maxRecDepth 20000 in
theorem gX2_takesExcuse_X2_goesOn : GoodIn wsX2_takesExcuse (wsV RX2 34 RX2 yX2_goesOn wsX2_goesOn) := goodIn_app (goodIn_of _ (by decide +kernel)) ggX2_takesExcuse_X2_goesOn
theorem dX2_takesExcuse_0 : decode cX2_takesExcuse 0 = .ok (.iload_n 1, 1) := by decide +kernel
theorem dX2_takesExcuse_1 : decode cX2_takesExcuse 1 = .ok (.bipush 97, 2) := by decide +kernel
theorem dX2_takesExcuse_3 : decode cX2_takesExcuse 3 = .ok (.bipush 108, 2) := by decide +kernel
theorem dX2_takesExcuse_5 : decode cX2_takesExcuse 5 = .ok (.invokestatic 54, 3) := by decide +kernel
theorem dX2_takesExcuse_8 : decode cX2_takesExcuse 8 = .ok (.istore_n 2, 1) := by decide +kernel
theorem dX2_takesExcuse_9 : decode cX2_takesExcuse 9 = .ok (.iload_n 2, 1) := by decide +kernel
theorem dX2_takesExcuse_10 : decode cX2_takesExcuse 10 = .ok (.ifCond .eq 11, 3) := by decide +kernel
theorem dX2_takesExcuse_13 : decode cX2_takesExcuse 13 = .ok (.aload_n 0, 1) := by decide +kernel
theorem dX2_takesExcuse_14 : decode cX2_takesExcuse 14 = .ok (.iload_n 1, 1) := by decide +kernel
theorem dX2_takesExcuse_15 : decode cX2_takesExcuse 15 = .ok (.bipush 97, 2) := by decide +kernel
theorem dX2_takesExcuse_17 : decode cX2_takesExcuse 17 = .ok (.isub, 1) := by decide +kernel
theorem dX2_takesExcuse_18 : decode cX2_takesExcuse 18 = .ok (.putfield 18, 3) := by decide +kernel
theorem dX2_takesExcuse_21 : decode cX2_takesExcuse 21 = .ok (.aload_n 0, 1) := by decide +kernel
theorem dX2_takesExcuse_22 : decode cX2_takesExcuse 22 = .ok (.iload_n 2, 1) := by decide +kernel
theorem dX2_takesExcuse_23 : decode cX2_takesExcuse 23 = .ok (.iconst 2, 1) := by decide +kernel
theorem dX2_takesExcuse_24 : decode cX2_takesExcuse 24 = .ok (.invokevirtual 34, 3) := by decide +kernel
theorem dX2_takesExcuse_27 : decode cX2_takesExcuse 27 = .ok (.ireturn, 1) := by decide +kernel
set_option maxRecDepth 20000 in
theorem ggX2_takesMinutes_X2_isDigit : GoodIn wsX2_takesMinutes wsX2_isDigit := goodIn_r _ [5, 6, 7, 8] (by decide +kernel) (by decide +kernel)
set_option maxRecDepth 20000 in
theorem gX2_takesMinutes_X2_isDigit : GoodIn wsX2_takesMinutes (va_wsS RX2 51 yX2_isDigit wsX2_isDigit) := goodIn_app (goodIn_of _ (by decide +kernel)) ggX2_takesMinutes_X2_isDigit
set_option maxRecDepth 20000 in
theorem ggX2_takesMinutes_X2_goesOn : GoodIn wsX2_takesMinutes wsX2_goesOn := goodIn_r _ [12, 13, 14, 15, 16, 17, 18] (by decide +kernel) (by decide +kernel)
set_option maxRecDepth 20000 in
theorem gX2_takesMinutes_X2_goesOn : GoodIn wsX2_takesMinutes (wsV RX2 34 RX2 yX2_goesOn wsX2_goesOn) := goodIn_app (goodIn_of _ (by decide +kernel)) ggX2_takesMinutes_X2_goesOn
theorem dX2_takesMinutes_0 : decode cX2_takesMinutes 0 = .ok (.iload_n 1, 1) := by decide +kernel
theorem dX2_takesMinutes_1 : decode cX2_takesMinutes 1 = .ok (.invokestatic 51, 3) := by decide +kernel
theorem dX2_takesMinutes_4 : decode cX2_takesMinutes 4 = .ok (.ifCond .eq 16, 3) := by decide +kernel
theorem dX2_takesMinutes_7 : decode cX2_takesMinutes 7 = .ok (.aload_n 0, 1) := by decide +kernel
theorem dX2_takesMinutes_8 : decode cX2_takesMinutes 8 = .ok (.bipush 10, 2) := by decide +kernel
theorem dX2_takesMinutes_10 : decode cX2_takesMinutes 10 = .ok (.iload_n 2, 1) := by decide +kernel
theorem dX2_takesMinutes_11 : decode cX2_takesMinutes 11 = .ok (.imul, 1) := by decide +kernel
theorem dX2_takesMinutes_12 : decode cX2_takesMinutes 12 = .ok (.iload_n 1, 1) := by decide +kernel
theorem dX2_takesMinutes_13 : decode cX2_takesMinutes 13 = .ok (.iadd, 1) := by decide +kernel
theorem dX2_takesMinutes_14 : decode cX2_takesMinutes 14 = .ok (.bipush 48, 2) := by decide +kernel
theorem dX2_takesMinutes_16 : decode cX2_takesMinutes 16 = .ok (.isub, 1) := by decide +kernel
theorem dX2_takesMinutes_17 : decode cX2_takesMinutes 17 = .ok (.putfield 21, 3) := by decide +kernel
theorem dX2_takesMinutes_20 : decode cX2_takesMinutes 20 = .ok (.aload_n 0, 1) := by decide +kernel
theorem dX2_takesMinutes_21 : decode cX2_takesMinutes 21 = .ok (.iload_n 1, 1) := by decide +kernel
theorem dX2_takesMinutes_22 : decode cX2_takesMinutes 22 = .ok (.invokestatic 51, 3) := by decide +kernel
theorem dX2_takesMinutes_25 : decode cX2_takesMinutes 25 = .ok (.iload_n 3, 1) := by decide +kernel
theorem dX2_takesMinutes_26 : decode cX2_takesMinutes 26 = .ok (.invokevirtual 34, 3) := by decide +kernel
theorem dX2_takesMinutes_29 : decode cX2_takesMinutes 29 = .ok (.ireturn, 1) := by decide +kernel
set_option maxRecDepth 20000 in
theorem ggX2_takesAfterMinutes_X2_goesOn : GoodIn wsX2_takesAfterMinutes wsX2_goesOn := goodIn_r _ [5, 6, 12, 13, 14, 15, 16] (by decide +kernel) (by decide +kernel)
set_option maxRecDepth 20000 in
theorem gX2_takesAfterMinutes_X2_goesOn : GoodIn wsX2_takesAfterMinutes (wsV RX2 34 RX2 yX2_goesOn wsX2_goesOn) := goodIn_app (goodIn_of _ (by decide +kernel)) ggX2_takesAfterMinutes_X2_goesOn
set_option maxRecDepth 20000 in
theorem ggX2_takesAfterMinutes_X2_takesComma : GoodIn wsX2_takesAfterMinutes wsX2_takesComma := goodIn_r _ [10, 11, 1, 2, 3, 4, 5, 6, 12, 13, 14, 15, 16] (by decide +kernel) (by decide +kernel)
set_option maxRecDepth 20000 in
theorem gX2_takesAfterMinutes_X2_takesComma : GoodIn wsX2_takesAfterMinutes (wsV RX2 48 RX2 yX2_takesComma wsX2_takesComma) := goodIn_app (goodIn_of _ (by decide +kernel)) ggX2_takesAfterMinutes_X2_takesComma
theorem dX2_takesAfterMinutes_0 : decode cX2_takesAfterMinutes 0 = .ok (.aload_n 0, 1) := by decide +kernel
theorem dX2_takesAfterMinutes_1 : decode cX2_takesAfterMinutes 1 = .ok (.iload_n 1, 1) := by decide +kernel
theorem dX2_takesAfterMinutes_2 : decode cX2_takesAfterMinutes 2 = .ok (.bipush 119, 2) := by decide +kernel
theorem dX2_takesAfterMinutes_4 : decode cX2_takesAfterMinutes 4 = .ok (.if_icmp .ne 7, 3) := by decide +kernel
theorem dX2_takesAfterMinutes_7 : decode cX2_takesAfterMinutes 7 = .ok (.iconst 1, 1) := by decide +kernel
theorem dX2_takesAfterMinutes_8 : decode cX2_takesAfterMinutes 8 = .ok (.goto 4, 3) := by decide +kernel
theorem dX2_takesAfterMinutes_11 : decode cX2_takesAfterMinutes 11 = .ok (.iconst 0, 1) := by decide +kernel
theorem dX2_takesAfterMinutes_12 : decode cX2_takesAfterMinutes 12 = .ok (.bipush 6, 2) := by decide +kernel
theorem dX2_takesAfterMinutes_14 : decode cX2_takesAfterMinutes 14 = .ok (.invokevirtual 34, 3) := by decide +kernel
theorem dX2_takesAfterMinutes_17 : decode cX2_takesAfterMinutes 17 = .ok (.ifCond .ne 11, 3) := by decide +kernel
theorem dX2_takesAfterMinutes_20 : decode cX2_takesAfterMinutes 20 = .ok (.aload_n 0, 1) := by decide +kernel
theorem dX2_takesAfterMinutes_21 : decode cX2_takesAfterMinutes 21 = .ok (.iload_n 1, 1) := by decide +kernel
theorem dX2_takesAfterMinutes_22 : decode cX2_takesAfterMinutes 22 = .ok (.invokevirtual 48, 3) := by decide +kernel
theorem dX2_takesAfterMinutes_25 : decode cX2_takesAfterMinutes 25 = .ok (.ifCond .eq 7, 3) := by decide +kernel
theorem dX2_takesAfterMinutes_28 : decode cX2_takesAfterMinutes 28 = .ok (.iconst 1, 1) := by decide +kernel
theorem dX2_takesAfterMinutes_29 : decode cX2_takesAfterMinutes 29 = .ok (.goto 4, 3) := by decide +kernel
theorem dX2_takesAfterMinutes_32 : decode cX2_takesAfterMinutes 32 = .ok (.iconst 0, 1) := by decide +kernel
theorem dX2_takesAfterMinutes_33 : decode cX2_takesAfterMinutes 33 = .ok (.ireturn, 1) := by decide +kernel
set_option maxRecDepth 20000 in
theorem ggX2_takesWitness_X2_isDigit : GoodIn wsX2_takesWitness wsX2_isDigit := goodIn_r _ [6, 7, 8, 9] (by decide +kernel) (by decide +kernel)
set_option maxRecDepth 20000 in
theorem gX2_takesWitness_X2_isDigit : GoodIn wsX2_takesWitness (va_wsS RX2 51 yX2_isDigit wsX2_isDigit) := goodIn_app (goodIn_of _ (by decide +kernel)) ggX2_takesWitness_X2_isDigit
set_option maxRecDepth 20000 in
theorem ggX2_takesWitness_X2_goesOn : GoodIn wsX2_takesWitness wsX2_goesOn := goodIn_r _ [13, 14, 15, 16, 17, 18, 19] (by decide +kernel) (by decide +kernel)
set_option maxRecDepth 20000 in
theorem gX2_takesWitness_X2_goesOn : GoodIn wsX2_takesWitness (wsV RX2 34 RX2 yX2_goesOn wsX2_goesOn) := goodIn_app (goodIn_of _ (by decide +kernel)) ggX2_takesWitness_X2_goesOn
theorem dX2_takesWitness_0 : decode cX2_takesWitness 0 = .ok (.iload_n 1, 1) := by decide +kernel
theorem dX2_takesWitness_1 : decode cX2_takesWitness 1 = .ok (.invokestatic 51, 3) := by decide +kernel
theorem dX2_takesWitness_4 : decode cX2_takesWitness 4 = .ok (.ifCond .eq 18, 3) := by decide +kernel
theorem dX2_takesWitness_7 : decode cX2_takesWitness 7 = .ok (.iload_n 1, 1) := by decide +kernel
theorem dX2_takesWitness_8 : decode cX2_takesWitness 8 = .ok (.bipush 48, 2) := by decide +kernel
theorem dX2_takesWitness_10 : decode cX2_takesWitness 10 = .ok (.isub, 1) := by decide +kernel
theorem dX2_takesWitness_11 : decode cX2_takesWitness 11 = .ok (.aload_n 0, 1) := by decide +kernel
theorem dX2_takesWitness_12 : decode cX2_takesWitness 12 = .ok (.getfield 15, 3) := by decide +kernel
theorem dX2_takesWitness_15 : decode cX2_takesWitness 15 = .ok (.if_icmp .eq 7, 3) := by decide +kernel
theorem dX2_takesWitness_18 : decode cX2_takesWitness 18 = .ok (.iconst 1, 1) := by decide +kernel
theorem dX2_takesWitness_19 : decode cX2_takesWitness 19 = .ok (.goto 4, 3) := by decide +kernel
theorem dX2_takesWitness_22 : decode cX2_takesWitness 22 = .ok (.iconst 0, 1) := by decide +kernel
theorem dX2_takesWitness_23 : decode cX2_takesWitness 23 = .ok (.istore_n 2, 1) := by decide +kernel
theorem dX2_takesWitness_24 : decode cX2_takesWitness 24 = .ok (.iload_n 2, 1) := by decide +kernel
theorem dX2_takesWitness_25 : decode cX2_takesWitness 25 = .ok (.ifCond .eq 11, 3) := by decide +kernel
theorem dX2_takesWitness_28 : decode cX2_takesWitness 28 = .ok (.aload_n 0, 1) := by decide +kernel
theorem dX2_takesWitness_29 : decode cX2_takesWitness 29 = .ok (.iload_n 1, 1) := by decide +kernel
theorem dX2_takesWitness_30 : decode cX2_takesWitness 30 = .ok (.bipush 48, 2) := by decide +kernel
theorem dX2_takesWitness_32 : decode cX2_takesWitness 32 = .ok (.isub, 1) := by decide +kernel
theorem dX2_takesWitness_33 : decode cX2_takesWitness 33 = .ok (.putfield 24, 3) := by decide +kernel
theorem dX2_takesWitness_36 : decode cX2_takesWitness 36 = .ok (.aload_n 0, 1) := by decide +kernel
theorem dX2_takesWitness_37 : decode cX2_takesWitness 37 = .ok (.iload_n 2, 1) := by decide +kernel
theorem dX2_takesWitness_38 : decode cX2_takesWitness 38 = .ok (.bipush 7, 2) := by decide +kernel
theorem dX2_takesWitness_40 : decode cX2_takesWitness 40 = .ok (.invokevirtual 34, 3) := by decide +kernel
theorem dX2_takesWitness_43 : decode cX2_takesWitness 43 = .ok (.ireturn, 1) := by decide +kernel
set_option maxRecDepth 20000 in
theorem ggX2_takesComma_X2_goesOn : GoodIn wsX2_takesComma wsX2_goesOn := goodIn_r _ [6, 7, 8, 9, 10, 11, 12] (by decide +kernel) (by decide +kernel)
set_option maxRecDepth 20000 in
theorem gX2_takesComma_X2_goesOn : GoodIn wsX2_takesComma (wsV RX2 34 RX2 yX2_goesOn wsX2_goesOn) := goodIn_app (goodIn_of _ (by decide +kernel)) ggX2_takesComma_X2_goesOn
theorem dX2_takesComma_0 : decode cX2_takesComma 0 = .ok (.iload_n 1, 1) := by decide +kernel
theorem dX2_takesComma_1 : decode cX2_takesComma 1 = .ok (.bipush 44, 2) := by decide +kernel
theorem dX2_takesComma_3 : decode cX2_takesComma 3 = .ok (.if_icmp .ne 9, 3) := by decide +kernel
theorem dX2_takesComma_6 : decode cX2_takesComma 6 = .ok (.aload_n 0, 1) := by decide +kernel
theorem dX2_takesComma_7 : decode cX2_takesComma 7 = .ok (.bipush (-6), 2) := by decide +kernel
theorem dX2_takesComma_9 : decode cX2_takesComma 9 = .ok (.putfield 24, 3) := by decide +kernel
theorem dX2_takesComma_12 : decode cX2_takesComma 12 = .ok (.aload_n 0, 1) := by decide +kernel
theorem dX2_takesComma_13 : decode cX2_takesComma 13 = .ok (.iload_n 1, 1) := by decide +kernel
theorem dX2_takesComma_14 : decode cX2_takesComma 14 = .ok (.bipush 44, 2) := by decide +kernel
theorem dX2_takesComma_16 : decode cX2_takesComma 16 = .ok (.if_icmp .ne 7, 3) := by decide +kernel
theorem dX2_takesComma_19 : decode cX2_takesComma 19 = .ok (.iconst 1, 1) := by decide +kernel
theorem dX2_takesComma_20 : decode cX2_takesComma 20 = .ok (.goto 4, 3) := by decide +kernel
theorem dX2_takesComma_23 : decode cX2_takesComma 23 = .ok (.iconst 0, 1) := by decide +kernel
theorem dX2_takesComma_24 : decode cX2_takesComma 24 = .ok (.iconst 0, 1) := by decide +kernel
theorem dX2_takesComma_25 : decode cX2_takesComma 25 = .ok (.invokevirtual 34, 3) := by decide +kernel
theorem dX2_takesComma_28 : decode cX2_takesComma 28 = .ok (.ireturn, 1) := by decide +kernel
set_option maxRecDepth 20000 in
theorem ggX2_isDigit_X4_isWithin : GoodIn wsX2_isDigit wsX4_isWithin := goodIn_r _ [3] (by decide +kernel) (by decide +kernel)
set_option maxRecDepth 20000 in
theorem gX2_isDigit_X4_isWithin_n54 : GoodIn wsX2_isDigit (wsX4_isWithin) := ggX2_isDigit_X4_isWithin
theorem dX2_isDigit_0 : decode cX2_isDigit 0 = .ok (.iload_n 0, 1) := by decide +kernel
theorem dX2_isDigit_1 : decode cX2_isDigit 1 = .ok (.bipush 48, 2) := by decide +kernel
theorem dX2_isDigit_3 : decode cX2_isDigit 3 = .ok (.bipush 57, 2) := by decide +kernel
theorem dX2_isDigit_5 : decode cX2_isDigit 5 = .ok (.invokestatic 54, 3) := by decide +kernel
theorem dX2_isDigit_8 : decode cX2_isDigit 8 = .ok (.ireturn, 1) := by decide +kernel
theorem inlX3 : ∀ w ∈ wsX30, w ∈ wsL_law := fun _ h => List.mem_append_left _ (List.mem_append_left _ (List.mem_append_left _ (List.mem_append_left _ (List.mem_append_right _ h))))
set_option maxRecDepth 20000 in
theorem ggX3_init_X4_copy : GoodIn wsX3_init wsX4_copy := goodIn_r _ [22, 23, 24, 25, 26, 27, 28, 29, 30] (by decide +kernel) (by decide +kernel)
set_option maxRecDepth 20000 in
theorem gX3_init_X4_copy_n61 : GoodIn wsX3_init (wsX4_copy) := ggX3_init_X4_copy
theorem dX3_init_0 : decode cX3_init 0 = .ok (.aload_n 0, 1) := by decide +kernel
theorem dX3_init_1 : decode cX3_init 1 = .ok (.invokespecial 3, 3) := by decide +kernel
theorem dX3_init_4 : decode cX3_init 4 = .ok (.aload_n 0, 1) := by decide +kernel
theorem dX3_init_5 : decode cX3_init 5 = .ok (.getstatic 9, 3) := by decide +kernel
theorem dX3_init_8 : decode cX3_init 8 = .ok (.arraylength, 1) := by decide +kernel
theorem dX3_init_9 : decode cX3_init 9 = .ok (.newarray .int, 2) := by decide +kernel
theorem dX3_init_11 : decode cX3_init 11 = .ok (.putfield 13, 3) := by decide +kernel
theorem dX3_init_14 : decode cX3_init 14 = .ok (.aload_n 0, 1) := by decide +kernel
theorem dX3_init_15 : decode cX3_init 15 = .ok (.iconst 0, 1) := by decide +kernel
theorem dX3_init_16 : decode cX3_init 16 = .ok (.putfield 18, 3) := by decide +kernel
theorem dX3_init_19 : decode cX3_init 19 = .ok (.aload_n 0, 1) := by decide +kernel
theorem dX3_init_20 : decode cX3_init 20 = .ok (.bipush 12, 2) := by decide +kernel
theorem dX3_init_22 : decode cX3_init 22 = .ok (.newarray .int, 2) := by decide +kernel
theorem dX3_init_24 : decode cX3_init 24 = .ok (.putfield 22, 3) := by decide +kernel
theorem dX3_init_27 : decode cX3_init 27 = .ok (.aload_n 0, 1) := by decide +kernel
theorem dX3_init_28 : decode cX3_init 28 = .ok (.bipush 12, 2) := by decide +kernel
theorem dX3_init_30 : decode cX3_init 30 = .ok (.newarray .int, 2) := by decide +kernel
theorem dX3_init_32 : decode cX3_init 32 = .ok (.putfield 25, 3) := by decide +kernel
theorem dX3_init_35 : decode cX3_init 35 = .ok (.aload_n 0, 1) := by decide +kernel
theorem dX3_init_36 : decode cX3_init 36 = .ok (.bipush 12, 2) := by decide +kernel
theorem dX3_init_38 : decode cX3_init 38 = .ok (.newarray .int, 2) := by decide +kernel
theorem dX3_init_40 : decode cX3_init 40 = .ok (.putfield 28, 3) := by decide +kernel
theorem dX3_init_43 : decode cX3_init 43 = .ok (.aload_n 0, 1) := by decide +kernel
theorem dX3_init_44 : decode cX3_init 44 = .ok (.bipush 120, 2) := by decide +kernel
theorem dX3_init_46 : decode cX3_init 46 = .ok (.newarray .int, 2) := by decide +kernel
theorem dX3_init_48 : decode cX3_init 48 = .ok (.putfield 31, 3) := by decide +kernel
theorem dX3_init_51 : decode cX3_init 51 = .ok (.aload_n 0, 1) := by decide +kernel
theorem dX3_init_52 : decode cX3_init 52 = .ok (.bipush 10, 2) := by decide +kernel
theorem dX3_init_54 : decode cX3_init 54 = .ok (.newarray .int, 2) := by decide +kernel
theorem dX3_init_56 : decode cX3_init 56 = .ok (.putfield 34, 3) := by decide +kernel
theorem dX3_init_59 : decode cX3_init 59 = .ok (.aload_n 0, 1) := by decide +kernel
theorem dX3_init_60 : decode cX3_init 60 = .ok (.bipush 10, 2) := by decide +kernel
theorem dX3_init_62 : decode cX3_init 62 = .ok (.newarray .int, 2) := by decide +kernel
theorem dX3_init_64 : decode cX3_init 64 = .ok (.putfield 37, 3) := by decide +kernel
theorem dX3_init_67 : decode cX3_init 67 = .ok (.aload_n 0, 1) := by decide +kernel
theorem dX3_init_68 : decode cX3_init 68 = .ok (.bipush 10, 2) := by decide +kernel
theorem dX3_init_70 : decode cX3_init 70 = .ok (.newarray .int, 2) := by decide +kernel
theorem dX3_init_72 : decode cX3_init 72 = .ok (.putfield 40, 3) := by decide +kernel
theorem dX3_init_75 : decode cX3_init 75 = .ok (.aload_n 0, 1) := by decide +kernel
theorem dX3_init_76 : decode cX3_init 76 = .ok (.bipush 10, 2) := by decide +kernel
theorem dX3_init_78 : decode cX3_init 78 = .ok (.newarray .int, 2) := by decide +kernel
theorem dX3_init_80 : decode cX3_init 80 = .ok (.putfield 43, 3) := by decide +kernel
theorem dX3_init_83 : decode cX3_init 83 = .ok (.aload_n 0, 1) := by decide +kernel
theorem dX3_init_84 : decode cX3_init 84 = .ok (.bipush 10, 2) := by decide +kernel
theorem dX3_init_86 : decode cX3_init 86 = .ok (.newarray .int, 2) := by decide +kernel
theorem dX3_init_88 : decode cX3_init 88 = .ok (.putfield 46, 3) := by decide +kernel
theorem dX3_init_91 : decode cX3_init 91 = .ok (.aload_n 0, 1) := by decide +kernel
theorem dX3_init_92 : decode cX3_init 92 = .ok (.bipush 10, 2) := by decide +kernel
theorem dX3_init_94 : decode cX3_init 94 = .ok (.newarray .int, 2) := by decide +kernel
theorem dX3_init_96 : decode cX3_init 96 = .ok (.putfield 49, 3) := by decide +kernel
theorem dX3_init_99 : decode cX3_init 99 = .ok (.aload_n 0, 1) := by decide +kernel
theorem dX3_init_100 : decode cX3_init 100 = .ok (.iconst 5, 1) := by decide +kernel
theorem dX3_init_101 : decode cX3_init 101 = .ok (.newarray .int, 2) := by decide +kernel
theorem dX3_init_103 : decode cX3_init 103 = .ok (.putfield 52, 3) := by decide +kernel
theorem dX3_init_106 : decode cX3_init 106 = .ok (.aload_n 0, 1) := by decide +kernel
theorem dX3_init_107 : decode cX3_init 107 = .ok (.iconst 5, 1) := by decide +kernel
theorem dX3_init_108 : decode cX3_init 108 = .ok (.newarray .int, 2) := by decide +kernel
theorem dX3_init_110 : decode cX3_init 110 = .ok (.putfield 55, 3) := by decide +kernel
theorem dX3_init_113 : decode cX3_init 113 = .ok (.aload_n 0, 1) := by decide +kernel
theorem dX3_init_114 : decode cX3_init 114 = .ok (.iconst 0, 1) := by decide +kernel
theorem dX3_init_115 : decode cX3_init 115 = .ok (.putfield 58, 3) := by decide +kernel
theorem dX3_init_118 : decode cX3_init 118 = .ok (.getstatic 9, 3) := by decide +kernel
theorem dX3_init_121 : decode cX3_init 121 = .ok (.aload_n 0, 1) := by decide +kernel
theorem dX3_init_122 : decode cX3_init 122 = .ok (.getfield 13, 3) := by decide +kernel
theorem dX3_init_125 : decode cX3_init 125 = .ok (.invokestatic 61, 3) := by decide +kernel
theorem dX3_init_128 : decode cX3_init 128 = .ok (.iconst 0, 1) := by decide +kernel
theorem dX3_init_129 : decode cX3_init 129 = .ok (.istore_n 1, 1) := by decide +kernel
theorem dX3_init_130 : decode cX3_init 130 = .ok (.iload_n 1, 1) := by decide +kernel
theorem dX3_init_131 : decode cX3_init 131 = .ok (.bipush 10, 2) := by decide +kernel
theorem dX3_init_133 : decode cX3_init 133 = .ok (.if_icmp .ge 24, 3) := by decide +kernel
theorem dX3_init_136 : decode cX3_init 136 = .ok (.aload_n 0, 1) := by decide +kernel
theorem dX3_init_137 : decode cX3_init 137 = .ok (.getfield 34, 3) := by decide +kernel
theorem dX3_init_140 : decode cX3_init 140 = .ok (.iload_n 1, 1) := by decide +kernel
theorem dX3_init_141 : decode cX3_init 141 = .ok (.iconst 5, 1) := by decide +kernel
theorem dX3_init_142 : decode cX3_init 142 = .ok (.iastore, 1) := by decide +kernel
theorem dX3_init_143 : decode cX3_init 143 = .ok (.aload_n 0, 1) := by decide +kernel
theorem dX3_init_144 : decode cX3_init 144 = .ok (.getfield 49, 3) := by decide +kernel
theorem dX3_init_147 : decode cX3_init 147 = .ok (.iload_n 1, 1) := by decide +kernel
theorem dX3_init_148 : decode cX3_init 148 = .ok (.bipush (-6), 2) := by decide +kernel
theorem dX3_init_150 : decode cX3_init 150 = .ok (.iastore, 1) := by decide +kernel
theorem dX3_init_151 : decode cX3_init 151 = .ok (.iinc 1 1, 3) := by decide +kernel
theorem dX3_init_154 : decode cX3_init 154 = .ok (.goto (-24), 3) := by decide +kernel
theorem dX3_init_157 : decode cX3_init 157 = .ok (.return_, 1) := by decide +kernel
set_option maxRecDepth 20000 in
theorem ggX3_become_X4_copy : GoodIn wsX3_become wsX4_copy := goodIn_r _ [18, 19, 20, 21, 22, 23, 24, 25, 26] (by decide +kernel) (by decide +kernel)
set_option maxRecDepth 20000 in
theorem gX3_become_X4_copy_n61 : GoodIn wsX3_become (wsX4_copy) := ggX3_become_X4_copy
theorem dX3_become_0 : decode cX3_become 0 = .ok (.aload_n 1, 1) := by decide +kernel
theorem dX3_become_1 : decode cX3_become 1 = .ok (.getfield 13, 3) := by decide +kernel
theorem dX3_become_4 : decode cX3_become 4 = .ok (.aload_n 0, 1) := by decide +kernel
theorem dX3_become_5 : decode cX3_become 5 = .ok (.getfield 13, 3) := by decide +kernel
theorem dX3_become_8 : decode cX3_become 8 = .ok (.invokestatic 61, 3) := by decide +kernel
theorem dX3_become_11 : decode cX3_become 11 = .ok (.aload_n 0, 1) := by decide +kernel
theorem dX3_become_12 : decode cX3_become 12 = .ok (.aload_n 1, 1) := by decide +kernel
theorem dX3_become_13 : decode cX3_become 13 = .ok (.getfield 18, 3) := by decide +kernel
theorem dX3_become_16 : decode cX3_become 16 = .ok (.putfield 18, 3) := by decide +kernel
theorem dX3_become_19 : decode cX3_become 19 = .ok (.aload_n 1, 1) := by decide +kernel
theorem dX3_become_20 : decode cX3_become 20 = .ok (.getfield 22, 3) := by decide +kernel
theorem dX3_become_23 : decode cX3_become 23 = .ok (.aload_n 0, 1) := by decide +kernel
theorem dX3_become_24 : decode cX3_become 24 = .ok (.getfield 22, 3) := by decide +kernel
theorem dX3_become_27 : decode cX3_become 27 = .ok (.invokestatic 61, 3) := by decide +kernel
theorem dX3_become_30 : decode cX3_become 30 = .ok (.aload_n 1, 1) := by decide +kernel
theorem dX3_become_31 : decode cX3_become 31 = .ok (.getfield 25, 3) := by decide +kernel
theorem dX3_become_34 : decode cX3_become 34 = .ok (.aload_n 0, 1) := by decide +kernel
theorem dX3_become_35 : decode cX3_become 35 = .ok (.getfield 25, 3) := by decide +kernel
theorem dX3_become_38 : decode cX3_become 38 = .ok (.invokestatic 61, 3) := by decide +kernel
theorem dX3_become_41 : decode cX3_become 41 = .ok (.aload_n 1, 1) := by decide +kernel
theorem dX3_become_42 : decode cX3_become 42 = .ok (.getfield 28, 3) := by decide +kernel
theorem dX3_become_45 : decode cX3_become 45 = .ok (.aload_n 0, 1) := by decide +kernel
theorem dX3_become_46 : decode cX3_become 46 = .ok (.getfield 28, 3) := by decide +kernel
theorem dX3_become_49 : decode cX3_become 49 = .ok (.invokestatic 61, 3) := by decide +kernel
theorem dX3_become_52 : decode cX3_become 52 = .ok (.aload_n 1, 1) := by decide +kernel
theorem dX3_become_53 : decode cX3_become 53 = .ok (.getfield 31, 3) := by decide +kernel
theorem dX3_become_56 : decode cX3_become 56 = .ok (.aload_n 0, 1) := by decide +kernel
theorem dX3_become_57 : decode cX3_become 57 = .ok (.getfield 31, 3) := by decide +kernel
theorem dX3_become_60 : decode cX3_become 60 = .ok (.invokestatic 61, 3) := by decide +kernel
theorem dX3_become_63 : decode cX3_become 63 = .ok (.aload_n 1, 1) := by decide +kernel
theorem dX3_become_64 : decode cX3_become 64 = .ok (.getfield 34, 3) := by decide +kernel
theorem dX3_become_67 : decode cX3_become 67 = .ok (.aload_n 0, 1) := by decide +kernel
theorem dX3_become_68 : decode cX3_become 68 = .ok (.getfield 34, 3) := by decide +kernel
theorem dX3_become_71 : decode cX3_become 71 = .ok (.invokestatic 61, 3) := by decide +kernel
theorem dX3_become_74 : decode cX3_become 74 = .ok (.aload_n 1, 1) := by decide +kernel
theorem dX3_become_75 : decode cX3_become 75 = .ok (.getfield 37, 3) := by decide +kernel
theorem dX3_become_78 : decode cX3_become 78 = .ok (.aload_n 0, 1) := by decide +kernel
theorem dX3_become_79 : decode cX3_become 79 = .ok (.getfield 37, 3) := by decide +kernel
theorem dX3_become_82 : decode cX3_become 82 = .ok (.invokestatic 61, 3) := by decide +kernel
theorem dX3_become_85 : decode cX3_become 85 = .ok (.aload_n 1, 1) := by decide +kernel
theorem dX3_become_86 : decode cX3_become 86 = .ok (.getfield 40, 3) := by decide +kernel
theorem dX3_become_89 : decode cX3_become 89 = .ok (.aload_n 0, 1) := by decide +kernel
theorem dX3_become_90 : decode cX3_become 90 = .ok (.getfield 40, 3) := by decide +kernel
theorem dX3_become_93 : decode cX3_become 93 = .ok (.invokestatic 61, 3) := by decide +kernel
theorem dX3_become_96 : decode cX3_become 96 = .ok (.aload_n 1, 1) := by decide +kernel
theorem dX3_become_97 : decode cX3_become 97 = .ok (.getfield 43, 3) := by decide +kernel
theorem dX3_become_100 : decode cX3_become 100 = .ok (.aload_n 0, 1) := by decide +kernel
theorem dX3_become_101 : decode cX3_become 101 = .ok (.getfield 43, 3) := by decide +kernel
theorem dX3_become_104 : decode cX3_become 104 = .ok (.invokestatic 61, 3) := by decide +kernel
theorem dX3_become_107 : decode cX3_become 107 = .ok (.aload_n 1, 1) := by decide +kernel
theorem dX3_become_108 : decode cX3_become 108 = .ok (.getfield 46, 3) := by decide +kernel
theorem dX3_become_111 : decode cX3_become 111 = .ok (.aload_n 0, 1) := by decide +kernel
theorem dX3_become_112 : decode cX3_become 112 = .ok (.getfield 46, 3) := by decide +kernel
theorem dX3_become_115 : decode cX3_become 115 = .ok (.invokestatic 61, 3) := by decide +kernel
theorem dX3_become_118 : decode cX3_become 118 = .ok (.aload_n 1, 1) := by decide +kernel
theorem dX3_become_119 : decode cX3_become 119 = .ok (.getfield 49, 3) := by decide +kernel
theorem dX3_become_122 : decode cX3_become 122 = .ok (.aload_n 0, 1) := by decide +kernel
theorem dX3_become_123 : decode cX3_become 123 = .ok (.getfield 49, 3) := by decide +kernel
theorem dX3_become_126 : decode cX3_become 126 = .ok (.invokestatic 61, 3) := by decide +kernel
theorem dX3_become_129 : decode cX3_become 129 = .ok (.aload_n 1, 1) := by decide +kernel
theorem dX3_become_130 : decode cX3_become 130 = .ok (.getfield 52, 3) := by decide +kernel
theorem dX3_become_133 : decode cX3_become 133 = .ok (.aload_n 0, 1) := by decide +kernel
theorem dX3_become_134 : decode cX3_become 134 = .ok (.getfield 52, 3) := by decide +kernel
theorem dX3_become_137 : decode cX3_become 137 = .ok (.invokestatic 61, 3) := by decide +kernel
theorem dX3_become_140 : decode cX3_become 140 = .ok (.aload_n 1, 1) := by decide +kernel
theorem dX3_become_141 : decode cX3_become 141 = .ok (.getfield 55, 3) := by decide +kernel
theorem dX3_become_144 : decode cX3_become 144 = .ok (.aload_n 0, 1) := by decide +kernel
theorem dX3_become_145 : decode cX3_become 145 = .ok (.getfield 55, 3) := by decide +kernel
theorem dX3_become_148 : decode cX3_become 148 = .ok (.invokestatic 61, 3) := by decide +kernel
theorem dX3_become_151 : decode cX3_become 151 = .ok (.aload_n 0, 1) := by decide +kernel
theorem dX3_become_152 : decode cX3_become 152 = .ok (.aload_n 1, 1) := by decide +kernel
theorem dX3_become_153 : decode cX3_become 153 = .ok (.getfield 58, 3) := by decide +kernel
theorem dX3_become_156 : decode cX3_become 156 = .ok (.putfield 58, 3) := by decide +kernel
theorem dX3_become_159 : decode cX3_become 159 = .ok (.return_, 1) := by decide +kernel
theorem dX3_hasExcuse_0 : decode cX3_hasExcuse 0 = .ok (.iload_n 1, 1) := by decide +kernel
theorem dX3_hasExcuse_1 : decode cX3_hasExcuse 1 = .ok (.ifCond .lt 15, 3) := by decide +kernel
theorem dX3_hasExcuse_4 : decode cX3_hasExcuse 4 = .ok (.iload_n 1, 1) := by decide +kernel
theorem dX3_hasExcuse_5 : decode cX3_hasExcuse 5 = .ok (.aload_n 0, 1) := by decide +kernel
theorem dX3_hasExcuse_6 : decode cX3_hasExcuse 6 = .ok (.getfield 18, 3) := by decide +kernel
theorem dX3_hasExcuse_9 : decode cX3_hasExcuse 9 = .ok (.if_icmp .ge 7, 3) := by decide +kernel
theorem dX3_hasExcuse_12 : decode cX3_hasExcuse 12 = .ok (.iconst 1, 1) := by decide +kernel
theorem dX3_hasExcuse_13 : decode cX3_hasExcuse 13 = .ok (.goto 4, 3) := by decide +kernel
theorem dX3_hasExcuse_16 : decode cX3_hasExcuse 16 = .ok (.iconst 0, 1) := by decide +kernel
theorem dX3_hasExcuse_17 : decode cX3_hasExcuse 17 = .ok (.ireturn, 1) := by decide +kernel
theorem dX3_addExcuse_0 : decode cX3_addExcuse 0 = .ok (.aload_n 0, 1) := by decide +kernel
theorem dX3_addExcuse_1 : decode cX3_addExcuse 1 = .ok (.getfield 22, 3) := by decide +kernel
theorem dX3_addExcuse_4 : decode cX3_addExcuse 4 = .ok (.aload_n 0, 1) := by decide +kernel
theorem dX3_addExcuse_5 : decode cX3_addExcuse 5 = .ok (.getfield 18, 3) := by decide +kernel
theorem dX3_addExcuse_8 : decode cX3_addExcuse 8 = .ok (.iload_n 1, 1) := by decide +kernel
theorem dX3_addExcuse_9 : decode cX3_addExcuse 9 = .ok (.iastore, 1) := by decide +kernel
theorem dX3_addExcuse_10 : decode cX3_addExcuse 10 = .ok (.aload_n 0, 1) := by decide +kernel
theorem dX3_addExcuse_11 : decode cX3_addExcuse 11 = .ok (.getfield 25, 3) := by decide +kernel
theorem dX3_addExcuse_14 : decode cX3_addExcuse 14 = .ok (.aload_n 0, 1) := by decide +kernel
theorem dX3_addExcuse_15 : decode cX3_addExcuse 15 = .ok (.getfield 18, 3) := by decide +kernel
theorem dX3_addExcuse_18 : decode cX3_addExcuse 18 = .ok (.iload_n 2, 1) := by decide +kernel
theorem dX3_addExcuse_19 : decode cX3_addExcuse 19 = .ok (.iastore, 1) := by decide +kernel
theorem dX3_addExcuse_20 : decode cX3_addExcuse 20 = .ok (.aload_n 0, 1) := by decide +kernel
theorem dX3_addExcuse_21 : decode cX3_addExcuse 21 = .ok (.dup, 1) := by decide +kernel
theorem dX3_addExcuse_22 : decode cX3_addExcuse 22 = .ok (.getfield 18, 3) := by decide +kernel
theorem dX3_addExcuse_25 : decode cX3_addExcuse 25 = .ok (.iconst 1, 1) := by decide +kernel
theorem dX3_addExcuse_26 : decode cX3_addExcuse 26 = .ok (.iadd, 1) := by decide +kernel
theorem dX3_addExcuse_27 : decode cX3_addExcuse 27 = .ok (.putfield 18, 3) := by decide +kernel
theorem dX3_addExcuse_30 : decode cX3_addExcuse 30 = .ok (.aload_n 0, 1) := by decide +kernel
theorem dX3_addExcuse_31 : decode cX3_addExcuse 31 = .ok (.getfield 18, 3) := by decide +kernel
theorem dX3_addExcuse_34 : decode cX3_addExcuse 34 = .ok (.iconst 1, 1) := by decide +kernel
theorem dX3_addExcuse_35 : decode cX3_addExcuse 35 = .ok (.isub, 1) := by decide +kernel
theorem dX3_addExcuse_36 : decode cX3_addExcuse 36 = .ok (.ireturn, 1) := by decide +kernel
theorem dX3_usesOf_0 : decode cX3_usesOf 0 = .ok (.aload_n 0, 1) := by decide +kernel
theorem dX3_usesOf_1 : decode cX3_usesOf 1 = .ok (.getfield 31, 3) := by decide +kernel
theorem dX3_usesOf_4 : decode cX3_usesOf 4 = .ok (.iload_n 1, 1) := by decide +kernel
theorem dX3_usesOf_5 : decode cX3_usesOf 5 = .ok (.bipush 12, 2) := by decide +kernel
theorem dX3_usesOf_7 : decode cX3_usesOf 7 = .ok (.imul, 1) := by decide +kernel
theorem dX3_usesOf_8 : decode cX3_usesOf 8 = .ok (.iload_n 2, 1) := by decide +kernel
theorem dX3_usesOf_9 : decode cX3_usesOf 9 = .ok (.iadd, 1) := by decide +kernel
theorem dX3_usesOf_10 : decode cX3_usesOf 10 = .ok (.iaload, 1) := by decide +kernel
theorem dX3_usesOf_11 : decode cX3_usesOf 11 = .ok (.ireturn, 1) := by decide +kernel
set_option maxRecDepth 20000 in
theorem ggX3_usesByPupil_X3_usesOf : GoodIn wsX3_usesByPupil wsX3_usesOf := goodIn_r _ [5, 6, 7, 8, 9, 10, 11, 12, 13, 14, 15, 16, 17, 18, 19, 20, 21] (by decide +kernel) (by decide +kernel)
set_option maxRecDepth 20000 in
theorem gX3_usesByPupil_X3_usesOf : GoodIn wsX3_usesByPupil (wsV RX3 65 RX3 yX3_usesOf wsX3_usesOf) := goodIn_app (goodIn_of _ (by decide +kernel)) ggX3_usesByPupil_X3_usesOf
theorem dX3_usesByPupil_0 : decode cX3_usesByPupil 0 = .ok (.iconst 0, 1) := by decide +kernel
theorem dX3_usesByPupil_1 : decode cX3_usesByPupil 1 = .ok (.istore_n 2, 1) := by decide +kernel
theorem dX3_usesByPupil_2 : decode cX3_usesByPupil 2 = .ok (.iconst 0, 1) := by decide +kernel
theorem dX3_usesByPupil_3 : decode cX3_usesByPupil 3 = .ok (.istore_n 3, 1) := by decide +kernel
theorem dX3_usesByPupil_4 : decode cX3_usesByPupil 4 = .ok (.iload_n 3, 1) := by decide +kernel
theorem dX3_usesByPupil_5 : decode cX3_usesByPupil 5 = .ok (.bipush 12, 2) := by decide +kernel
theorem dX3_usesByPupil_7 : decode cX3_usesByPupil 7 = .ok (.if_icmp .ge 18, 3) := by decide +kernel
theorem dX3_usesByPupil_10 : decode cX3_usesByPupil 10 = .ok (.iload_n 2, 1) := by decide +kernel
theorem dX3_usesByPupil_11 : decode cX3_usesByPupil 11 = .ok (.aload_n 0, 1) := by decide +kernel
theorem dX3_usesByPupil_12 : decode cX3_usesByPupil 12 = .ok (.iload_n 1, 1) := by decide +kernel
theorem dX3_usesByPupil_13 : decode cX3_usesByPupil 13 = .ok (.iload_n 3, 1) := by decide +kernel
theorem dX3_usesByPupil_14 : decode cX3_usesByPupil 14 = .ok (.invokevirtual 65, 3) := by decide +kernel
theorem dX3_usesByPupil_17 : decode cX3_usesByPupil 17 = .ok (.iadd, 1) := by decide +kernel
theorem dX3_usesByPupil_18 : decode cX3_usesByPupil 18 = .ok (.istore_n 2, 1) := by decide +kernel
theorem dX3_usesByPupil_19 : decode cX3_usesByPupil 19 = .ok (.iinc 3 1, 3) := by decide +kernel
theorem dX3_usesByPupil_22 : decode cX3_usesByPupil 22 = .ok (.goto (-18), 3) := by decide +kernel
theorem dX3_usesByPupil_25 : decode cX3_usesByPupil 25 = .ok (.iload_n 2, 1) := by decide +kernel
theorem dX3_usesByPupil_26 : decode cX3_usesByPupil 26 = .ok (.ireturn, 1) := by decide +kernel
theorem dX3_usesByClass_0 : decode cX3_usesByClass 0 = .ok (.iconst 2, 1) := by decide +kernel
theorem dX3_usesByClass_1 : decode cX3_usesByClass 1 = .ok (.iload_n 1, 1) := by decide +kernel
theorem dX3_usesByClass_2 : decode cX3_usesByClass 2 = .ok (.imul, 1) := by decide +kernel
theorem dX3_usesByClass_3 : decode cX3_usesByClass 3 = .ok (.bipush 12, 2) := by decide +kernel
theorem dX3_usesByClass_5 : decode cX3_usesByClass 5 = .ok (.imul, 1) := by decide +kernel
theorem dX3_usesByClass_6 : decode cX3_usesByClass 6 = .ok (.iload_n 2, 1) := by decide +kernel
theorem dX3_usesByClass_7 : decode cX3_usesByClass 7 = .ok (.iadd, 1) := by decide +kernel
theorem dX3_usesByClass_8 : decode cX3_usesByClass 8 = .ok (.istore_n 3, 1) := by decide +kernel
theorem dX3_usesByClass_9 : decode cX3_usesByClass 9 = .ok (.aload_n 0, 1) := by decide +kernel
theorem dX3_usesByClass_10 : decode cX3_usesByClass 10 = .ok (.getfield 31, 3) := by decide +kernel
theorem dX3_usesByClass_13 : decode cX3_usesByClass 13 = .ok (.iload_n 3, 1) := by decide +kernel
theorem dX3_usesByClass_14 : decode cX3_usesByClass 14 = .ok (.iaload, 1) := by decide +kernel
theorem dX3_usesByClass_15 : decode cX3_usesByClass 15 = .ok (.aload_n 0, 1) := by decide +kernel
theorem dX3_usesByClass_16 : decode cX3_usesByClass 16 = .ok (.getfield 31, 3) := by decide +kernel
theorem dX3_usesByClass_19 : decode cX3_usesByClass 19 = .ok (.iload_n 3, 1) := by decide +kernel
theorem dX3_usesByClass_20 : decode cX3_usesByClass 20 = .ok (.bipush 12, 2) := by decide +kernel
theorem dX3_usesByClass_22 : decode cX3_usesByClass 22 = .ok (.iadd, 1) := by decide +kernel
theorem dX3_usesByClass_23 : decode cX3_usesByClass 23 = .ok (.iaload, 1) := by decide +kernel
theorem dX3_usesByClass_24 : decode cX3_usesByClass 24 = .ok (.iadd, 1) := by decide +kernel
theorem dX3_usesByClass_25 : decode cX3_usesByClass 25 = .ok (.ireturn, 1) := by decide +kernel
theorem dX3_usesBySchool_0 : decode cX3_usesBySchool 0 = .ok (.iconst 0, 1) := by decide +kernel
theorem dX3_usesBySchool_1 : decode cX3_usesBySchool 1 = .ok (.istore_n 2, 1) := by decide +kernel
theorem dX3_usesBySchool_2 : decode cX3_usesBySchool 2 = .ok (.iload_n 1, 1) := by decide +kernel
theorem dX3_usesBySchool_3 : decode cX3_usesBySchool 3 = .ok (.istore_n 3, 1) := by decide +kernel
theorem dX3_usesBySchool_4 : decode cX3_usesBySchool 4 = .ok (.iload_n 3, 1) := by decide +kernel
theorem dX3_usesBySchool_5 : decode cX3_usesBySchool 5 = .ok (.aload_n 0, 1) := by decide +kernel
theorem dX3_usesBySchool_6 : decode cX3_usesBySchool 6 = .ok (.getfield 31, 3) := by decide +kernel
theorem dX3_usesBySchool_9 : decode cX3_usesBySchool 9 = .ok (.arraylength, 1) := by decide +kernel
theorem dX3_usesBySchool_10 : decode cX3_usesBySchool 10 = .ok (.if_icmp .ge 18, 3) := by decide +kernel
theorem dX3_usesBySchool_13 : decode cX3_usesBySchool 13 = .ok (.iload_n 2, 1) := by decide +kernel
theorem dX3_usesBySchool_14 : decode cX3_usesBySchool 14 = .ok (.aload_n 0, 1) := by decide +kernel
theorem dX3_usesBySchool_15 : decode cX3_usesBySchool 15 = .ok (.getfield 31, 3) := by decide +kernel
theorem dX3_usesBySchool_18 : decode cX3_usesBySchool 18 = .ok (.iload_n 3, 1) := by decide +kernel
theorem dX3_usesBySchool_19 : decode cX3_usesBySchool 19 = .ok (.iaload, 1) := by decide +kernel
theorem dX3_usesBySchool_20 : decode cX3_usesBySchool 20 = .ok (.iadd, 1) := by decide +kernel
theorem dX3_usesBySchool_21 : decode cX3_usesBySchool 21 = .ok (.istore_n 2, 1) := by decide +kernel
theorem dX3_usesBySchool_22 : decode cX3_usesBySchool 22 = .ok (.iinc 3 12, 3) := by decide +kernel
theorem dX3_usesBySchool_25 : decode cX3_usesBySchool 25 = .ok (.goto (-21), 3) := by decide +kernel
theorem dX3_usesBySchool_28 : decode cX3_usesBySchool 28 = .ok (.iload_n 2, 1) := by decide +kernel
theorem dX3_usesBySchool_29 : decode cX3_usesBySchool 29 = .ok (.ireturn, 1) := by decide +kernel
set_option maxRecDepth 20000 in
theorem ggX3_usersOf_X3_usesOf : GoodIn wsX3_usersOf wsX3_usesOf := goodIn_r _ [5, 6, 7, 8, 9, 10, 11, 12, 13, 14, 15, 16, 17, 18, 19, 20, 21] (by decide +kernel) (by decide +kernel)
set_option maxRecDepth 20000 in
theorem gX3_usersOf_X3_usesOf : GoodIn wsX3_usersOf (wsV RX3 65 RX3 yX3_usesOf wsX3_usesOf) := goodIn_app (goodIn_of _ (by decide +kernel)) ggX3_usersOf_X3_usesOf
theorem dX3_usersOf_0 : decode cX3_usersOf 0 = .ok (.iconst 0, 1) := by decide +kernel
theorem dX3_usersOf_1 : decode cX3_usersOf 1 = .ok (.istore_n 2, 1) := by decide +kernel
theorem dX3_usersOf_2 : decode cX3_usersOf 2 = .ok (.iconst 0, 1) := by decide +kernel
theorem dX3_usersOf_3 : decode cX3_usersOf 3 = .ok (.istore_n 3, 1) := by decide +kernel
theorem dX3_usersOf_4 : decode cX3_usersOf 4 = .ok (.iload_n 3, 1) := by decide +kernel
theorem dX3_usersOf_5 : decode cX3_usersOf 5 = .ok (.bipush 10, 2) := by decide +kernel
theorem dX3_usersOf_7 : decode cX3_usersOf 7 = .ok (.if_icmp .ge 24, 3) := by decide +kernel
theorem dX3_usersOf_10 : decode cX3_usersOf 10 = .ok (.aload_n 0, 1) := by decide +kernel
theorem dX3_usersOf_11 : decode cX3_usersOf 11 = .ok (.iload_n 3, 1) := by decide +kernel
theorem dX3_usersOf_12 : decode cX3_usersOf 12 = .ok (.iload_n 1, 1) := by decide +kernel
theorem dX3_usersOf_13 : decode cX3_usersOf 13 = .ok (.invokevirtual 65, 3) := by decide +kernel
theorem dX3_usersOf_16 : decode cX3_usersOf 16 = .ok (.ifCond .le 9, 3) := by decide +kernel
theorem dX3_usersOf_19 : decode cX3_usersOf 19 = .ok (.iload_n 2, 1) := by decide +kernel
theorem dX3_usersOf_20 : decode cX3_usersOf 20 = .ok (.iconst 1, 1) := by decide +kernel
theorem dX3_usersOf_21 : decode cX3_usersOf 21 = .ok (.iload_n 3, 1) := by decide +kernel
theorem dX3_usersOf_22 : decode cX3_usersOf 22 = .ok (.ishl, 1) := by decide +kernel
theorem dX3_usersOf_23 : decode cX3_usersOf 23 = .ok (.ior, 1) := by decide +kernel
theorem dX3_usersOf_24 : decode cX3_usersOf 24 = .ok (.istore_n 2, 1) := by decide +kernel
theorem dX3_usersOf_25 : decode cX3_usersOf 25 = .ok (.iinc 3 1, 3) := by decide +kernel
theorem dX3_usersOf_28 : decode cX3_usersOf 28 = .ok (.goto (-24), 3) := by decide +kernel
theorem dX3_usersOf_31 : decode cX3_usersOf 31 = .ok (.iload_n 2, 1) := by decide +kernel
theorem dX3_usersOf_32 : decode cX3_usersOf 32 = .ok (.ireturn, 1) := by decide +kernel
set_option maxRecDepth 20000 in
theorem ggX3_noveltyFor_X3_usesBySchool : GoodIn wsX3_noveltyFor wsX3_usesBySchool := goodIn_r _ [10, 11, 19, 20, 21, 22, 23, 24, 25, 26, 27, 28, 29, 30, 31, 32, 33] (by decide +kernel) (by decide +kernel)
set_option maxRecDepth 20000 in
theorem gX3_noveltyFor_X3_usesBySchool : GoodIn wsX3_noveltyFor (wsV RX3 69 RX3 yX3_usesBySchool wsX3_usesBySchool) := goodIn_app (goodIn_of _ (by decide +kernel)) ggX3_noveltyFor_X3_usesBySchool
set_option maxRecDepth 20000 in
theorem ggX3_noveltyFor_X4_classOf : GoodIn wsX3_noveltyFor wsX4_classOf := goodIn_r _ [14] (by decide +kernel) (by decide +kernel)
set_option maxRecDepth 20000 in
theorem gX3_noveltyFor_X4_classOf_n73 : GoodIn wsX3_noveltyFor (wsX4_classOf) := ggX3_noveltyFor_X4_classOf
set_option maxRecDepth 20000 in
theorem ggX3_noveltyFor_X3_usesByClass : GoodIn wsX3_noveltyFor wsX3_usesByClass := goodIn_r _ [18, 11, 19, 20, 21, 22, 23, 24, 25, 26, 27, 28, 29, 30, 31, 32, 33] (by decide +kernel) (by decide +kernel)
set_option maxRecDepth 20000 in
theorem gX3_noveltyFor_X3_usesByClass : GoodIn wsX3_noveltyFor (wsV RX3 76 RX3 yX3_usesByClass wsX3_usesByClass) := goodIn_app (goodIn_of _ (by decide +kernel)) ggX3_noveltyFor_X3_usesByClass
theorem dX3_noveltyFor_0 : decode cX3_noveltyFor 0 = .ok (.aload_n 0, 1) := by decide +kernel
theorem dX3_noveltyFor_1 : decode cX3_noveltyFor 1 = .ok (.getfield 13, 3) := by decide +kernel
theorem dX3_noveltyFor_4 : decode cX3_noveltyFor 4 = .ok (.iconst 1, 1) := by decide +kernel
theorem dX3_noveltyFor_5 : decode cX3_noveltyFor 5 = .ok (.iaload, 1) := by decide +kernel
theorem dX3_noveltyFor_6 : decode cX3_noveltyFor 6 = .ok (.aload_n 0, 1) := by decide +kernel
theorem dX3_noveltyFor_7 : decode cX3_noveltyFor 7 = .ok (.iload_n 2, 1) := by decide +kernel
theorem dX3_noveltyFor_8 : decode cX3_noveltyFor 8 = .ok (.invokevirtual 69, 3) := by decide +kernel
theorem dX3_noveltyFor_11 : decode cX3_noveltyFor 11 = .ok (.aload_n 0, 1) := by decide +kernel
theorem dX3_noveltyFor_12 : decode cX3_noveltyFor 12 = .ok (.iload_n 1, 1) := by decide +kernel
theorem dX3_noveltyFor_13 : decode cX3_noveltyFor 13 = .ok (.invokestatic 73, 3) := by decide +kernel
theorem dX3_noveltyFor_16 : decode cX3_noveltyFor 16 = .ok (.iload_n 2, 1) := by decide +kernel
theorem dX3_noveltyFor_17 : decode cX3_noveltyFor 17 = .ok (.invokevirtual 76, 3) := by decide +kernel
theorem dX3_noveltyFor_20 : decode cX3_noveltyFor 20 = .ok (.iadd, 1) := by decide +kernel
theorem dX3_noveltyFor_21 : decode cX3_noveltyFor 21 = .ok (.imul, 1) := by decide +kernel
theorem dX3_noveltyFor_22 : decode cX3_noveltyFor 22 = .ok (.istore_n 3, 1) := by decide +kernel
theorem dX3_noveltyFor_23 : decode cX3_noveltyFor 23 = .ok (.iconst 0, 1) := by decide +kernel
theorem dX3_noveltyFor_24 : decode cX3_noveltyFor 24 = .ok (.bipush 100, 2) := by decide +kernel
theorem dX3_noveltyFor_26 : decode cX3_noveltyFor 26 = .ok (.iload_n 3, 1) := by decide +kernel
theorem dX3_noveltyFor_27 : decode cX3_noveltyFor 27 = .ok (.isub, 1) := by decide +kernel
theorem dX3_noveltyFor_28 : decode cX3_noveltyFor 28 = .ok (.invokestatic 79, 3) := by decide +kernel
theorem dX3_noveltyFor_31 : decode cX3_noveltyFor 31 = .ok (.ireturn, 1) := by decide +kernel
set_option maxRecDepth 20000 in
theorem ggX3_wornOutExcuses_X3_isWornOut : GoodIn wsX3_wornOutExcuses wsX3_isWornOut := goodIn_r _ [6, 7, 8, 9, 5, 10, 11, 12, 13, 14, 15, 16, 17, 18, 19, 20, 21, 22, 23, 24, 25, 26, 27, 28, 29, 30, 31, 32, 33, 34, 35, 36, 37, 38, 39, 40, 41, 42] (by decide +kernel) (by decide +kernel)
set_option maxRecDepth 20000 in
theorem gX3_wornOutExcuses_X3_isWornOut : GoodIn wsX3_wornOutExcuses (wsV RX3 84 RX3 yX3_isWornOut wsX3_isWornOut) := goodIn_app (goodIn_of _ (by decide +kernel)) ggX3_wornOutExcuses_X3_isWornOut
theorem dX3_wornOutExcuses_0 : decode cX3_wornOutExcuses 0 = .ok (.iconst 0, 1) := by decide +kernel
theorem dX3_wornOutExcuses_1 : decode cX3_wornOutExcuses 1 = .ok (.istore_n 1, 1) := by decide +kernel
theorem dX3_wornOutExcuses_2 : decode cX3_wornOutExcuses 2 = .ok (.iconst 0, 1) := by decide +kernel
theorem dX3_wornOutExcuses_3 : decode cX3_wornOutExcuses 3 = .ok (.istore_n 2, 1) := by decide +kernel
theorem dX3_wornOutExcuses_4 : decode cX3_wornOutExcuses 4 = .ok (.iload_n 2, 1) := by decide +kernel
theorem dX3_wornOutExcuses_5 : decode cX3_wornOutExcuses 5 = .ok (.aload_n 0, 1) := by decide +kernel
theorem dX3_wornOutExcuses_6 : decode cX3_wornOutExcuses 6 = .ok (.getfield 18, 3) := by decide +kernel
theorem dX3_wornOutExcuses_9 : decode cX3_wornOutExcuses 9 = .ok (.if_icmp .ge 20, 3) := by decide +kernel
theorem dX3_wornOutExcuses_12 : decode cX3_wornOutExcuses 12 = .ok (.aload_n 0, 1) := by decide +kernel
theorem dX3_wornOutExcuses_13 : decode cX3_wornOutExcuses 13 = .ok (.iload_n 2, 1) := by decide +kernel
theorem dX3_wornOutExcuses_14 : decode cX3_wornOutExcuses 14 = .ok (.invokevirtual 84, 3) := by decide +kernel
theorem dX3_wornOutExcuses_17 : decode cX3_wornOutExcuses 17 = .ok (.ifCond .eq 6, 3) := by decide +kernel
theorem dX3_wornOutExcuses_20 : decode cX3_wornOutExcuses 20 = .ok (.iinc 1 1, 3) := by decide +kernel
theorem dX3_wornOutExcuses_23 : decode cX3_wornOutExcuses 23 = .ok (.iinc 2 1, 3) := by decide +kernel
theorem dX3_wornOutExcuses_26 : decode cX3_wornOutExcuses 26 = .ok (.goto (-22), 3) := by decide +kernel
theorem dX3_wornOutExcuses_29 : decode cX3_wornOutExcuses 29 = .ok (.iload_n 1, 1) := by decide +kernel
theorem dX3_wornOutExcuses_30 : decode cX3_wornOutExcuses 30 = .ok (.ireturn, 1) := by decide +kernel
set_option maxRecDepth 20000 in
theorem ggX3_isWornOut_X3_noveltyFor : GoodIn wsX3_isWornOut wsX3_noveltyFor := goodIn_r _ [5, 6, 7, 8, 9, 10, 11, 12, 13, 4, 14, 15, 16, 17, 18, 19, 20, 21, 22, 23, 24, 25, 26, 27, 28, 29, 30, 31, 32, 33, 34, 35, 36, 37] (by decide +kernel) (by decide +kernel)
set_option maxRecDepth 20000 in
theorem gX3_isWornOut_X3_noveltyFor : GoodIn wsX3_isWornOut (wsV RX3 88 RX3 yX3_noveltyFor wsX3_noveltyFor) := goodIn_app (goodIn_of _ (by decide +kernel)) ggX3_isWornOut_X3_noveltyFor
theorem dX3_isWornOut_0 : decode cX3_isWornOut 0 = .ok (.iconst 0, 1) := by decide +kernel
theorem dX3_isWornOut_1 : decode cX3_isWornOut 1 = .ok (.istore_n 2, 1) := by decide +kernel
theorem dX3_isWornOut_2 : decode cX3_isWornOut 2 = .ok (.iload_n 2, 1) := by decide +kernel
theorem dX3_isWornOut_3 : decode cX3_isWornOut 3 = .ok (.bipush 10, 2) := by decide +kernel
theorem dX3_isWornOut_5 : decode cX3_isWornOut 5 = .ok (.if_icmp .ge 20, 3) := by decide +kernel
theorem dX3_isWornOut_8 : decode cX3_isWornOut 8 = .ok (.aload_n 0, 1) := by decide +kernel
theorem dX3_isWornOut_9 : decode cX3_isWornOut 9 = .ok (.iload_n 2, 1) := by decide +kernel
theorem dX3_isWornOut_10 : decode cX3_isWornOut 10 = .ok (.iload_n 1, 1) := by decide +kernel
theorem dX3_isWornOut_11 : decode cX3_isWornOut 11 = .ok (.invokevirtual 88, 3) := by decide +kernel
theorem dX3_isWornOut_14 : decode cX3_isWornOut 14 = .ok (.ifCond .le 5, 3) := by decide +kernel
theorem dX3_isWornOut_17 : decode cX3_isWornOut 17 = .ok (.iconst 0, 1) := by decide +kernel
theorem dX3_isWornOut_18 : decode cX3_isWornOut 18 = .ok (.ireturn, 1) := by decide +kernel
theorem dX3_isWornOut_19 : decode cX3_isWornOut 19 = .ok (.iinc 2 1, 3) := by decide +kernel
theorem dX3_isWornOut_22 : decode cX3_isWornOut 22 = .ok (.goto (-20), 3) := by decide +kernel
theorem dX3_isWornOut_25 : decode cX3_isWornOut 25 = .ok (.iconst 1, 1) := by decide +kernel
theorem dX3_isWornOut_26 : decode cX3_isWornOut 26 = .ok (.ireturn, 1) := by decide +kernel
set_option maxRecDepth 20000 in
theorem ggX3_weightOf_X3_noveltyFor : GoodIn wsX3_weightOf wsX3_noveltyFor := goodIn_r _ [8, 2, 9, 10, 11, 12, 13, 14, 15, 7, 16, 17, 18, 19, 20, 21, 22, 23, 24, 30, 31, 32, 33, 34, 35, 36, 37, 38, 39, 40, 41, 42, 43, 44] (by decide +kernel) (by decide +kernel)
set_option maxRecDepth 20000 in
theorem gX3_weightOf_X3_noveltyFor : GoodIn wsX3_weightOf (wsV RX3 88 RX3 yX3_noveltyFor wsX3_noveltyFor) := goodIn_app (goodIn_of _ (by decide +kernel)) ggX3_weightOf_X3_noveltyFor
set_option maxRecDepth 20000 in
theorem ggX3_weightOf_X4_classOf : GoodIn wsX3_weightOf wsX4_classOf := goodIn_r _ [20] (by decide +kernel) (by decide +kernel)
set_option maxRecDepth 20000 in
theorem gX3_weightOf_X4_classOf_n73 : GoodIn wsX3_weightOf (wsX4_classOf) := ggX3_weightOf_X4_classOf
set_option maxRecDepth 20000 in
theorem ggX3_weightOf_X3_standingOf : GoodIn wsX3_weightOf wsX3_standingOf := goodIn_r _ [28, 29, 9, 10, 11, 12, 18, 19, 20, 30, 31, 32, 33, 34, 35, 36, 37, 38, 39, 40, 41, 42, 43, 44] (by decide +kernel) (by decide +kernel)
set_option maxRecDepth 20000 in
theorem gX3_weightOf_X3_standingOf : GoodIn wsX3_weightOf (wsV RX3 91 RX3 yX3_standingOf wsX3_standingOf) := goodIn_app (goodIn_of _ (by decide +kernel)) ggX3_weightOf_X3_standingOf
theorem dX3_weightOf_0 : decode cX3_weightOf 0 = .ok (.aload_n 0, 1) := by decide +kernel
theorem dX3_weightOf_1 : decode cX3_weightOf 1 = .ok (.getfield 25, 3) := by decide +kernel
theorem dX3_weightOf_4 : decode cX3_weightOf 4 = .ok (.iload_n 2, 1) := by decide +kernel
theorem dX3_weightOf_5 : decode cX3_weightOf 5 = .ok (.iaload, 1) := by decide +kernel
theorem dX3_weightOf_6 : decode cX3_weightOf 6 = .ok (.aload_n 0, 1) := by decide +kernel
theorem dX3_weightOf_7 : decode cX3_weightOf 7 = .ok (.iload_n 1, 1) := by decide +kernel
theorem dX3_weightOf_8 : decode cX3_weightOf 8 = .ok (.iload_n 2, 1) := by decide +kernel
theorem dX3_weightOf_9 : decode cX3_weightOf 9 = .ok (.invokevirtual 88, 3) := by decide +kernel
theorem dX3_weightOf_12 : decode cX3_weightOf 12 = .ok (.imul, 1) := by decide +kernel
theorem dX3_weightOf_13 : decode cX3_weightOf 13 = .ok (.bipush 100, 2) := by decide +kernel
theorem dX3_weightOf_15 : decode cX3_weightOf 15 = .ok (.idiv, 1) := by decide +kernel
theorem dX3_weightOf_16 : decode cX3_weightOf 16 = .ok (.istore 5, 2) := by decide +kernel
theorem dX3_weightOf_18 : decode cX3_weightOf 18 = .ok (.iload 5, 2) := by decide +kernel
theorem dX3_weightOf_20 : decode cX3_weightOf 20 = .ok (.aload_n 0, 1) := by decide +kernel
theorem dX3_weightOf_21 : decode cX3_weightOf 21 = .ok (.getfield 13, 3) := by decide +kernel
theorem dX3_weightOf_24 : decode cX3_weightOf 24 = .ok (.iconst 4, 1) := by decide +kernel
theorem dX3_weightOf_25 : decode cX3_weightOf 25 = .ok (.iaload, 1) := by decide +kernel
theorem dX3_weightOf_26 : decode cX3_weightOf 26 = .ok (.aload_n 0, 1) := by decide +kernel
theorem dX3_weightOf_27 : decode cX3_weightOf 27 = .ok (.getfield 52, 3) := by decide +kernel
theorem dX3_weightOf_30 : decode cX3_weightOf 30 = .ok (.iload_n 1, 1) := by decide +kernel
theorem dX3_weightOf_31 : decode cX3_weightOf 31 = .ok (.invokestatic 73, 3) := by decide +kernel
theorem dX3_weightOf_34 : decode cX3_weightOf 34 = .ok (.iaload, 1) := by decide +kernel
theorem dX3_weightOf_35 : decode cX3_weightOf 35 = .ok (.imul, 1) := by decide +kernel
theorem dX3_weightOf_36 : decode cX3_weightOf 36 = .ok (.isub, 1) := by decide +kernel
theorem dX3_weightOf_37 : decode cX3_weightOf 37 = .ok (.istore 5, 2) := by decide +kernel
theorem dX3_weightOf_39 : decode cX3_weightOf 39 = .ok (.iload 5, 2) := by decide +kernel
theorem dX3_weightOf_41 : decode cX3_weightOf 41 = .ok (.iload 4, 2) := by decide +kernel
theorem dX3_weightOf_43 : decode cX3_weightOf 43 = .ok (.bipush 10, 2) := by decide +kernel
theorem dX3_weightOf_45 : decode cX3_weightOf 45 = .ok (.idiv, 1) := by decide +kernel
theorem dX3_weightOf_46 : decode cX3_weightOf 46 = .ok (.isub, 1) := by decide +kernel
theorem dX3_weightOf_47 : decode cX3_weightOf 47 = .ok (.istore 5, 2) := by decide +kernel
theorem dX3_weightOf_49 : decode cX3_weightOf 49 = .ok (.iload_n 3, 1) := by decide +kernel
theorem dX3_weightOf_50 : decode cX3_weightOf 50 = .ok (.bipush (-6), 2) := by decide +kernel
theorem dX3_weightOf_52 : decode cX3_weightOf 52 = .ok (.if_icmp .eq 14, 3) := by decide +kernel
theorem dX3_weightOf_55 : decode cX3_weightOf 55 = .ok (.iload 5, 2) := by decide +kernel
theorem dX3_weightOf_57 : decode cX3_weightOf 57 = .ok (.aload_n 0, 1) := by decide +kernel
theorem dX3_weightOf_58 : decode cX3_weightOf 58 = .ok (.iload_n 3, 1) := by decide +kernel
theorem dX3_weightOf_59 : decode cX3_weightOf 59 = .ok (.iload_n 1, 1) := by decide +kernel
theorem dX3_weightOf_60 : decode cX3_weightOf 60 = .ok (.invokevirtual 91, 3) := by decide +kernel
theorem dX3_weightOf_63 : decode cX3_weightOf 63 = .ok (.iadd, 1) := by decide +kernel
theorem dX3_weightOf_64 : decode cX3_weightOf 64 = .ok (.istore 5, 2) := by decide +kernel
theorem dX3_weightOf_66 : decode cX3_weightOf 66 = .ok (.iload 5, 2) := by decide +kernel
theorem dX3_weightOf_68 : decode cX3_weightOf 68 = .ok (.ireturn, 1) := by decide +kernel
set_option maxRecDepth 20000 in
theorem ggX3_standingOf_X4_classOf : GoodIn wsX3_standingOf wsX4_classOf := goodIn_r _ [8] (by decide +kernel) (by decide +kernel)
set_option maxRecDepth 20000 in
theorem gX3_standingOf_X4_classOf_n73 : GoodIn wsX3_standingOf (wsX4_classOf) := ggX3_standingOf_X4_classOf
theorem dX3_standingOf_0 : decode cX3_standingOf 0 = .ok (.iload_n 1, 1) := by decide +kernel
theorem dX3_standingOf_1 : decode cX3_standingOf 1 = .ok (.invokestatic 73, 3) := by decide +kernel
theorem dX3_standingOf_4 : decode cX3_standingOf 4 = .ok (.iload_n 2, 1) := by decide +kernel
theorem dX3_standingOf_5 : decode cX3_standingOf 5 = .ok (.invokestatic 73, 3) := by decide +kernel
theorem dX3_standingOf_8 : decode cX3_standingOf 8 = .ok (.if_icmp .ne 16, 3) := by decide +kernel
theorem dX3_standingOf_11 : decode cX3_standingOf 11 = .ok (.iconst 0, 1) := by decide +kernel
theorem dX3_standingOf_12 : decode cX3_standingOf 12 = .ok (.aload_n 0, 1) := by decide +kernel
theorem dX3_standingOf_13 : decode cX3_standingOf 13 = .ok (.getfield 34, 3) := by decide +kernel
theorem dX3_standingOf_16 : decode cX3_standingOf 16 = .ok (.iload_n 1, 1) := by decide +kernel
theorem dX3_standingOf_17 : decode cX3_standingOf 17 = .ok (.iaload, 1) := by decide +kernel
theorem dX3_standingOf_18 : decode cX3_standingOf 18 = .ok (.iconst 2, 1) := by decide +kernel
theorem dX3_standingOf_19 : decode cX3_standingOf 19 = .ok (.isub, 1) := by decide +kernel
theorem dX3_standingOf_20 : decode cX3_standingOf 20 = .ok (.invokestatic 79, 3) := by decide +kernel
theorem dX3_standingOf_23 : decode cX3_standingOf 23 = .ok (.ireturn, 1) := by decide +kernel
theorem dX3_standingOf_24 : decode cX3_standingOf 24 = .ok (.aload_n 0, 1) := by decide +kernel
theorem dX3_standingOf_25 : decode cX3_standingOf 25 = .ok (.getfield 34, 3) := by decide +kernel
theorem dX3_standingOf_28 : decode cX3_standingOf 28 = .ok (.iload_n 1, 1) := by decide +kernel
theorem dX3_standingOf_29 : decode cX3_standingOf 29 = .ok (.iaload, 1) := by decide +kernel
theorem dX3_standingOf_30 : decode cX3_standingOf 30 = .ok (.ireturn, 1) := by decide +kernel
set_option maxRecDepth 20000 in
theorem ggX3_reasonAgainst_X3_usesOf : GoodIn wsX3_reasonAgainst wsX3_usesOf := goodIn_r _ [9, 10, 40, 41, 42, 43, 44, 45, 46, 47, 48, 49, 50, 51, 52, 53, 54] (by decide +kernel) (by decide +kernel)
set_option maxRecDepth 20000 in
theorem gX3_reasonAgainst_X3_usesOf : GoodIn wsX3_reasonAgainst (wsV RX3 65 RX3 yX3_usesOf wsX3_usesOf) := goodIn_app (goodIn_of _ (by decide +kernel)) ggX3_reasonAgainst_X3_usesOf
set_option maxRecDepth 20000 in
theorem ggX3_reasonAgainst_X3_weightOf : GoodIn wsX3_reasonAgainst wsX3_weightOf := goodIn_r _ [14, 15, 1, 16, 17, 18, 19, 8, 20, 21, 22, 23, 24, 25, 26, 27, 28, 10, 29, 30, 31, 32, 33, 34, 35, 36, 37, 38, 39, 4, 40, 41, 42, 43, 44, 45, 46, 47, 48, 49, 50, 51, 52, 53, 54] (by decide +kernel) (by decide +kernel)
set_option maxRecDepth 20000 in
theorem gX3_reasonAgainst_X3_weightOf : GoodIn wsX3_reasonAgainst (wsV RX3 94 RX3 yX3_weightOf wsX3_weightOf) := goodIn_app (goodIn_of _ (by decide +kernel)) ggX3_reasonAgainst_X3_weightOf
theorem dX3_reasonAgainst_0 : decode cX3_reasonAgainst 0 = .ok (.aload_n 0, 1) := by decide +kernel
theorem dX3_reasonAgainst_1 : decode cX3_reasonAgainst 1 = .ok (.iload_n 1, 1) := by decide +kernel
theorem dX3_reasonAgainst_2 : decode cX3_reasonAgainst 2 = .ok (.iload_n 2, 1) := by decide +kernel
theorem dX3_reasonAgainst_3 : decode cX3_reasonAgainst 3 = .ok (.invokevirtual 65, 3) := by decide +kernel
theorem dX3_reasonAgainst_6 : decode cX3_reasonAgainst 6 = .ok (.aload_n 0, 1) := by decide +kernel
theorem dX3_reasonAgainst_7 : decode cX3_reasonAgainst 7 = .ok (.getfield 13, 3) := by decide +kernel
theorem dX3_reasonAgainst_10 : decode cX3_reasonAgainst 10 = .ok (.iconst 2, 1) := by decide +kernel
theorem dX3_reasonAgainst_11 : decode cX3_reasonAgainst 11 = .ok (.iaload, 1) := by decide +kernel
theorem dX3_reasonAgainst_12 : decode cX3_reasonAgainst 12 = .ok (.if_icmp .lt 5, 3) := by decide +kernel
theorem dX3_reasonAgainst_15 : decode cX3_reasonAgainst 15 = .ok (.iconst 1, 1) := by decide +kernel
theorem dX3_reasonAgainst_16 : decode cX3_reasonAgainst 16 = .ok (.ireturn, 1) := by decide +kernel
theorem dX3_reasonAgainst_17 : decode cX3_reasonAgainst 17 = .ok (.aload_n 0, 1) := by decide +kernel
theorem dX3_reasonAgainst_18 : decode cX3_reasonAgainst 18 = .ok (.getfield 49, 3) := by decide +kernel
theorem dX3_reasonAgainst_21 : decode cX3_reasonAgainst 21 = .ok (.iload_n 1, 1) := by decide +kernel
theorem dX3_reasonAgainst_22 : decode cX3_reasonAgainst 22 = .ok (.iaload, 1) := by decide +kernel
theorem dX3_reasonAgainst_23 : decode cX3_reasonAgainst 23 = .ok (.aload_n 0, 1) := by decide +kernel
theorem dX3_reasonAgainst_24 : decode cX3_reasonAgainst 24 = .ok (.getfield 22, 3) := by decide +kernel
theorem dX3_reasonAgainst_27 : decode cX3_reasonAgainst 27 = .ok (.iload_n 2, 1) := by decide +kernel
theorem dX3_reasonAgainst_28 : decode cX3_reasonAgainst 28 = .ok (.iaload, 1) := by decide +kernel
theorem dX3_reasonAgainst_29 : decode cX3_reasonAgainst 29 = .ok (.if_icmp .ne 5, 3) := by decide +kernel
theorem dX3_reasonAgainst_32 : decode cX3_reasonAgainst 32 = .ok (.iconst 2, 1) := by decide +kernel
theorem dX3_reasonAgainst_33 : decode cX3_reasonAgainst 33 = .ok (.ireturn, 1) := by decide +kernel
theorem dX3_reasonAgainst_34 : decode cX3_reasonAgainst 34 = .ok (.iload_n 3, 1) := by decide +kernel
theorem dX3_reasonAgainst_35 : decode cX3_reasonAgainst 35 = .ok (.bipush (-6), 2) := by decide +kernel
theorem dX3_reasonAgainst_37 : decode cX3_reasonAgainst 37 = .ok (.if_icmp .eq 14, 3) := by decide +kernel
theorem dX3_reasonAgainst_40 : decode cX3_reasonAgainst 40 = .ok (.aload_n 0, 1) := by decide +kernel
theorem dX3_reasonAgainst_41 : decode cX3_reasonAgainst 41 = .ok (.getfield 34, 3) := by decide +kernel
theorem dX3_reasonAgainst_44 : decode cX3_reasonAgainst 44 = .ok (.iload_n 3, 1) := by decide +kernel
theorem dX3_reasonAgainst_45 : decode cX3_reasonAgainst 45 = .ok (.iaload, 1) := by decide +kernel
theorem dX3_reasonAgainst_46 : decode cX3_reasonAgainst 46 = .ok (.ifCond .ne 5, 3) := by decide +kernel
theorem dX3_reasonAgainst_49 : decode cX3_reasonAgainst 49 = .ok (.iconst 3, 1) := by decide +kernel
theorem dX3_reasonAgainst_50 : decode cX3_reasonAgainst 50 = .ok (.ireturn, 1) := by decide +kernel
theorem dX3_reasonAgainst_51 : decode cX3_reasonAgainst 51 = .ok (.aload_n 0, 1) := by decide +kernel
theorem dX3_reasonAgainst_52 : decode cX3_reasonAgainst 52 = .ok (.iload_n 1, 1) := by decide +kernel
theorem dX3_reasonAgainst_53 : decode cX3_reasonAgainst 53 = .ok (.iload_n 2, 1) := by decide +kernel
theorem dX3_reasonAgainst_54 : decode cX3_reasonAgainst 54 = .ok (.iload_n 3, 1) := by decide +kernel
theorem dX3_reasonAgainst_55 : decode cX3_reasonAgainst 55 = .ok (.iload 4, 2) := by decide +kernel
theorem dX3_reasonAgainst_57 : decode cX3_reasonAgainst 57 = .ok (.invokevirtual 94, 3) := by decide +kernel
theorem dX3_reasonAgainst_60 : decode cX3_reasonAgainst 60 = .ok (.aload_n 0, 1) := by decide +kernel
theorem dX3_reasonAgainst_61 : decode cX3_reasonAgainst 61 = .ok (.getfield 13, 3) := by decide +kernel
theorem dX3_reasonAgainst_64 : decode cX3_reasonAgainst 64 = .ok (.iconst 0, 1) := by decide +kernel
theorem dX3_reasonAgainst_65 : decode cX3_reasonAgainst 65 = .ok (.iaload, 1) := by decide +kernel
theorem dX3_reasonAgainst_66 : decode cX3_reasonAgainst 66 = .ok (.if_icmp .ge 5, 3) := by decide +kernel
theorem dX3_reasonAgainst_69 : decode cX3_reasonAgainst 69 = .ok (.iconst 4, 1) := by decide +kernel
theorem dX3_reasonAgainst_70 : decode cX3_reasonAgainst 70 = .ok (.ireturn, 1) := by decide +kernel
theorem dX3_reasonAgainst_71 : decode cX3_reasonAgainst 71 = .ok (.iconst 0, 1) := by decide +kernel
theorem dX3_reasonAgainst_72 : decode cX3_reasonAgainst 72 = .ok (.ireturn, 1) := by decide +kernel
set_option maxRecDepth 20000 in
theorem ggX3_takeOffer_X3_reasonAgainst : GoodIn wsX3_takeOffer wsX3_reasonAgainst := goodIn_r _ [7, 8, 1, 2, 9, 10, 11, 12, 6, 13, 14, 15, 16, 17, 18, 19, 20, 21, 22, 23, 24, 25, 26, 27, 28, 29, 30, 31, 32, 33, 34, 35, 36, 37, 38, 39, 40, 41, 42, 43, 68, 69, 70, 71, 72, 73, 74, 75, 76, 77, 78, 79, 80, 81, 82] (by decide +kernel) (by decide +kernel)
set_option maxRecDepth 20000 in
theorem gX3_takeOffer_X3_reasonAgainst : GoodIn wsX3_takeOffer (wsV RX3 98 RX3 yX3_reasonAgainst wsX3_reasonAgainst) := goodIn_app (goodIn_of _ (by decide +kernel)) ggX3_takeOffer_X3_reasonAgainst
set_option maxRecDepth 20000 in
theorem ggX3_takeOffer_X3_stamp : GoodIn wsX3_takeOffer wsX3_stamp := goodIn_r _ [47, 14, 48, 49, 50, 51, 52, 6, 53, 9, 25, 26, 27, 28, 54, 55, 56, 57, 20, 58, 59, 60, 33, 34, 35, 68, 69, 70, 71, 72, 73, 74, 75, 76, 77, 78, 79, 80, 81, 82] (by decide +kernel) (by decide +kernel)
set_option maxRecDepth 20000 in
theorem gX3_takeOffer_X3_stamp : GoodIn wsX3_takeOffer (wsV RX3 101 RX3 yX3_stamp wsX3_stamp) := goodIn_app (goodIn_of _ (by decide +kernel)) ggX3_takeOffer_X3_stamp
set_option maxRecDepth 20000 in
theorem ggX3_takeOffer_X3_refuse : GoodIn wsX3_takeOffer wsX3_refuse := goodIn_r _ [64, 65, 8, 66, 67, 54, 55, 56, 6, 57, 20, 58, 59, 27, 60, 33, 34, 35, 50, 51, 52, 53, 9, 25, 26, 28, 68, 69, 70, 71, 72, 73, 74, 75, 76, 77, 78, 79, 80, 81, 82] (by decide +kernel) (by decide +kernel)
set_option maxRecDepth 20000 in
theorem gX3_takeOffer_X3_refuse : GoodIn wsX3_takeOffer (wsV RX3 105 RX3 yX3_refuse wsX3_refuse) := goodIn_app (goodIn_of _ (by decide +kernel)) ggX3_takeOffer_X3_refuse
theorem dX3_takeOffer_0 : decode cX3_takeOffer 0 = .ok (.aload_n 0, 1) := by decide +kernel
theorem dX3_takeOffer_1 : decode cX3_takeOffer 1 = .ok (.iload_n 1, 1) := by decide +kernel
theorem dX3_takeOffer_2 : decode cX3_takeOffer 2 = .ok (.iload_n 2, 1) := by decide +kernel
theorem dX3_takeOffer_3 : decode cX3_takeOffer 3 = .ok (.iload_n 3, 1) := by decide +kernel
theorem dX3_takeOffer_4 : decode cX3_takeOffer 4 = .ok (.iload 4, 2) := by decide +kernel
theorem dX3_takeOffer_6 : decode cX3_takeOffer 6 = .ok (.invokevirtual 98, 3) := by decide +kernel
theorem dX3_takeOffer_9 : decode cX3_takeOffer 9 = .ok (.istore 5, 2) := by decide +kernel
theorem dX3_takeOffer_11 : decode cX3_takeOffer 11 = .ok (.iload 5, 2) := by decide +kernel
theorem dX3_takeOffer_13 : decode cX3_takeOffer 13 = .ok (.ifCond .ne 15, 3) := by decide +kernel
theorem dX3_takeOffer_16 : decode cX3_takeOffer 16 = .ok (.aload_n 0, 1) := by decide +kernel
theorem dX3_takeOffer_17 : decode cX3_takeOffer 17 = .ok (.iload_n 1, 1) := by decide +kernel
theorem dX3_takeOffer_18 : decode cX3_takeOffer 18 = .ok (.iload_n 2, 1) := by decide +kernel
theorem dX3_takeOffer_19 : decode cX3_takeOffer 19 = .ok (.iload_n 3, 1) := by decide +kernel
theorem dX3_takeOffer_20 : decode cX3_takeOffer 20 = .ok (.iload 4, 2) := by decide +kernel
theorem dX3_takeOffer_22 : decode cX3_takeOffer 22 = .ok (.invokevirtual 101, 3) := by decide +kernel
theorem dX3_takeOffer_25 : decode cX3_takeOffer 25 = .ok (.goto 13, 3) := by decide +kernel
theorem dX3_takeOffer_28 : decode cX3_takeOffer 28 = .ok (.aload_n 0, 1) := by decide +kernel
theorem dX3_takeOffer_29 : decode cX3_takeOffer 29 = .ok (.iload_n 1, 1) := by decide +kernel
theorem dX3_takeOffer_30 : decode cX3_takeOffer 30 = .ok (.iload_n 3, 1) := by decide +kernel
theorem dX3_takeOffer_31 : decode cX3_takeOffer 31 = .ok (.iload 4, 2) := by decide +kernel
theorem dX3_takeOffer_33 : decode cX3_takeOffer 33 = .ok (.iload 5, 2) := by decide +kernel
theorem dX3_takeOffer_35 : decode cX3_takeOffer 35 = .ok (.invokevirtual 105, 3) := by decide +kernel
theorem dX3_takeOffer_38 : decode cX3_takeOffer 38 = .ok (.aload_n 0, 1) := by decide +kernel
theorem dX3_takeOffer_39 : decode cX3_takeOffer 39 = .ok (.getfield 49, 3) := by decide +kernel
theorem dX3_takeOffer_42 : decode cX3_takeOffer 42 = .ok (.iload_n 1, 1) := by decide +kernel
theorem dX3_takeOffer_43 : decode cX3_takeOffer 43 = .ok (.aload_n 0, 1) := by decide +kernel
theorem dX3_takeOffer_44 : decode cX3_takeOffer 44 = .ok (.getfield 22, 3) := by decide +kernel
theorem dX3_takeOffer_47 : decode cX3_takeOffer 47 = .ok (.iload_n 2, 1) := by decide +kernel
theorem dX3_takeOffer_48 : decode cX3_takeOffer 48 = .ok (.iaload, 1) := by decide +kernel
theorem dX3_takeOffer_49 : decode cX3_takeOffer 49 = .ok (.iastore, 1) := by decide +kernel
theorem dX3_takeOffer_50 : decode cX3_takeOffer 50 = .ok (.iload 5, 2) := by decide +kernel
theorem dX3_takeOffer_52 : decode cX3_takeOffer 52 = .ok (.ireturn, 1) := by decide +kernel
set_option maxRecDepth 20000 in
theorem ggX3_stamp_X3_takeCredit : GoodIn wsX3_stamp wsX3_takeCredit := goodIn_r _ [8, 9, 10, 11, 12, 13, 25, 26, 27, 28, 29, 30, 31, 32, 33, 34, 35, 36, 37, 38, 39] (by decide +kernel) (by decide +kernel)
set_option maxRecDepth 20000 in
theorem gX3_stamp_X3_takeCredit : GoodIn wsX3_stamp (wsV RX3 108 RX3 yX3_takeCredit wsX3_takeCredit) := goodIn_app (goodIn_of _ (by decide +kernel)) ggX3_stamp_X3_takeCredit
set_option maxRecDepth 20000 in
theorem ggX3_stamp_X3_angerMasterOf : GoodIn wsX3_stamp wsX3_angerMasterOf := goodIn_r _ [17, 18, 19, 20, 12, 21, 22, 23, 24, 25, 26, 27, 28, 29, 30, 31, 32, 33, 34, 35, 36, 37, 38, 39] (by decide +kernel) (by decide +kernel)
set_option maxRecDepth 20000 in
theorem gX3_stamp_X3_angerMasterOf : GoodIn wsX3_stamp (wsV RX3 112 RX3 yX3_angerMasterOf wsX3_angerMasterOf) := goodIn_app (goodIn_of _ (by decide +kernel)) ggX3_stamp_X3_angerMasterOf
theorem dX3_stamp_0 : decode cX3_stamp 0 = .ok (.aload_n 0, 1) := by decide +kernel
theorem dX3_stamp_1 : decode cX3_stamp 1 = .ok (.getfield 31, 3) := by decide +kernel
theorem dX3_stamp_4 : decode cX3_stamp 4 = .ok (.iload_n 1, 1) := by decide +kernel
theorem dX3_stamp_5 : decode cX3_stamp 5 = .ok (.bipush 12, 2) := by decide +kernel
theorem dX3_stamp_7 : decode cX3_stamp 7 = .ok (.imul, 1) := by decide +kernel
theorem dX3_stamp_8 : decode cX3_stamp 8 = .ok (.iload_n 2, 1) := by decide +kernel
theorem dX3_stamp_9 : decode cX3_stamp 9 = .ok (.iadd, 1) := by decide +kernel
theorem dX3_stamp_10 : decode cX3_stamp 10 = .ok (.dup2, 1) := by decide +kernel
theorem dX3_stamp_11 : decode cX3_stamp 11 = .ok (.iaload, 1) := by decide +kernel
theorem dX3_stamp_12 : decode cX3_stamp 12 = .ok (.iconst 1, 1) := by decide +kernel
theorem dX3_stamp_13 : decode cX3_stamp 13 = .ok (.iadd, 1) := by decide +kernel
theorem dX3_stamp_14 : decode cX3_stamp 14 = .ok (.iastore, 1) := by decide +kernel
theorem dX3_stamp_15 : decode cX3_stamp 15 = .ok (.aload_n 0, 1) := by decide +kernel
theorem dX3_stamp_16 : decode cX3_stamp 16 = .ok (.getfield 28, 3) := by decide +kernel
theorem dX3_stamp_19 : decode cX3_stamp 19 = .ok (.iload_n 2, 1) := by decide +kernel
theorem dX3_stamp_20 : decode cX3_stamp 20 = .ok (.dup2, 1) := by decide +kernel
theorem dX3_stamp_21 : decode cX3_stamp 21 = .ok (.iaload, 1) := by decide +kernel
theorem dX3_stamp_22 : decode cX3_stamp 22 = .ok (.iconst 1, 1) := by decide +kernel
theorem dX3_stamp_23 : decode cX3_stamp 23 = .ok (.iadd, 1) := by decide +kernel
theorem dX3_stamp_24 : decode cX3_stamp 24 = .ok (.iastore, 1) := by decide +kernel
theorem dX3_stamp_25 : decode cX3_stamp 25 = .ok (.aload_n 0, 1) := by decide +kernel
theorem dX3_stamp_26 : decode cX3_stamp 26 = .ok (.getfield 43, 3) := by decide +kernel
theorem dX3_stamp_29 : decode cX3_stamp 29 = .ok (.iload_n 1, 1) := by decide +kernel
theorem dX3_stamp_30 : decode cX3_stamp 30 = .ok (.dup2, 1) := by decide +kernel
theorem dX3_stamp_31 : decode cX3_stamp 31 = .ok (.iaload, 1) := by decide +kernel
theorem dX3_stamp_32 : decode cX3_stamp 32 = .ok (.iconst 1, 1) := by decide +kernel
theorem dX3_stamp_33 : decode cX3_stamp 33 = .ok (.iadd, 1) := by decide +kernel
theorem dX3_stamp_34 : decode cX3_stamp 34 = .ok (.iastore, 1) := by decide +kernel
theorem dX3_stamp_35 : decode cX3_stamp 35 = .ok (.aload_n 0, 1) := by decide +kernel
theorem dX3_stamp_36 : decode cX3_stamp 36 = .ok (.iload_n 3, 1) := by decide +kernel
theorem dX3_stamp_37 : decode cX3_stamp 37 = .ok (.iconst 1, 1) := by decide +kernel
theorem dX3_stamp_38 : decode cX3_stamp 38 = .ok (.invokevirtual 108, 3) := by decide +kernel
theorem dX3_stamp_41 : decode cX3_stamp 41 = .ok (.iload 4, 2) := by decide +kernel
theorem dX3_stamp_43 : decode cX3_stamp 43 = .ok (.bipush 30, 2) := by decide +kernel
theorem dX3_stamp_45 : decode cX3_stamp 45 = .ok (.if_icmp .le 8, 3) := by decide +kernel
theorem dX3_stamp_48 : decode cX3_stamp 48 = .ok (.aload_n 0, 1) := by decide +kernel
theorem dX3_stamp_49 : decode cX3_stamp 49 = .ok (.iload_n 1, 1) := by decide +kernel
theorem dX3_stamp_50 : decode cX3_stamp 50 = .ok (.invokevirtual 112, 3) := by decide +kernel
theorem dX3_stamp_53 : decode cX3_stamp 53 = .ok (.return_, 1) := by decide +kernel
set_option maxRecDepth 20000 in
theorem ggX3_refuse_X3_angerMasterOf : GoodIn wsX3_refuse wsX3_angerMasterOf := goodIn_r _ [9, 10, 11, 12, 13, 14, 15, 16, 17, 26, 27, 28, 29, 30, 31, 32, 33, 34, 35, 36, 37, 38, 39, 40] (by decide +kernel) (by decide +kernel)
set_option maxRecDepth 20000 in
theorem gX3_refuse_X3_angerMasterOf : GoodIn wsX3_refuse (wsV RX3 112 RX3 yX3_angerMasterOf wsX3_angerMasterOf) := goodIn_app (goodIn_of _ (by decide +kernel)) ggX3_refuse_X3_angerMasterOf
set_option maxRecDepth 20000 in
theorem ggX3_refuse_X3_takeCredit : GoodIn wsX3_refuse wsX3_takeCredit := goodIn_r _ [21, 22, 23, 24, 13, 25, 26, 27, 28, 29, 30, 31, 32, 33, 34, 35, 36, 37, 38, 39, 40] (by decide +kernel) (by decide +kernel)
set_option maxRecDepth 20000 in
theorem gX3_refuse_X3_takeCredit : GoodIn wsX3_refuse (wsV RX3 108 RX3 yX3_takeCredit wsX3_takeCredit) := goodIn_app (goodIn_of _ (by decide +kernel)) ggX3_refuse_X3_takeCredit
theorem dX3_refuse_0 : decode cX3_refuse 0 = .ok (.aload_n 0, 1) := by decide +kernel
theorem dX3_refuse_1 : decode cX3_refuse 1 = .ok (.getfield 37, 3) := by decide +kernel
theorem dX3_refuse_4 : decode cX3_refuse 4 = .ok (.iload_n 1, 1) := by decide +kernel
theorem dX3_refuse_5 : decode cX3_refuse 5 = .ok (.dup2, 1) := by decide +kernel
theorem dX3_refuse_6 : decode cX3_refuse 6 = .ok (.iaload, 1) := by decide +kernel
theorem dX3_refuse_7 : decode cX3_refuse 7 = .ok (.aload_n 0, 1) := by decide +kernel
theorem dX3_refuse_8 : decode cX3_refuse 8 = .ok (.getfield 13, 3) := by decide +kernel
theorem dX3_refuse_11 : decode cX3_refuse 11 = .ok (.iconst 3, 1) := by decide +kernel
theorem dX3_refuse_12 : decode cX3_refuse 12 = .ok (.iaload, 1) := by decide +kernel
theorem dX3_refuse_13 : decode cX3_refuse 13 = .ok (.iload_n 3, 1) := by decide +kernel
theorem dX3_refuse_14 : decode cX3_refuse 14 = .ok (.imul, 1) := by decide +kernel
theorem dX3_refuse_15 : decode cX3_refuse 15 = .ok (.iadd, 1) := by decide +kernel
theorem dX3_refuse_16 : decode cX3_refuse 16 = .ok (.iastore, 1) := by decide +kernel
theorem dX3_refuse_17 : decode cX3_refuse 17 = .ok (.aload_n 0, 1) := by decide +kernel
theorem dX3_refuse_18 : decode cX3_refuse 18 = .ok (.getfield 46, 3) := by decide +kernel
theorem dX3_refuse_21 : decode cX3_refuse 21 = .ok (.iload_n 1, 1) := by decide +kernel
theorem dX3_refuse_22 : decode cX3_refuse 22 = .ok (.dup2, 1) := by decide +kernel
theorem dX3_refuse_23 : decode cX3_refuse 23 = .ok (.iaload, 1) := by decide +kernel
theorem dX3_refuse_24 : decode cX3_refuse 24 = .ok (.iconst 1, 1) := by decide +kernel
theorem dX3_refuse_25 : decode cX3_refuse 25 = .ok (.iadd, 1) := by decide +kernel
theorem dX3_refuse_26 : decode cX3_refuse 26 = .ok (.iastore, 1) := by decide +kernel
theorem dX3_refuse_27 : decode cX3_refuse 27 = .ok (.aload_n 0, 1) := by decide +kernel
theorem dX3_refuse_28 : decode cX3_refuse 28 = .ok (.getfield 55, 3) := by decide +kernel
theorem dX3_refuse_31 : decode cX3_refuse 31 = .ok (.iload 4, 2) := by decide +kernel
theorem dX3_refuse_33 : decode cX3_refuse 33 = .ok (.dup2, 1) := by decide +kernel
theorem dX3_refuse_34 : decode cX3_refuse 34 = .ok (.iaload, 1) := by decide +kernel
theorem dX3_refuse_35 : decode cX3_refuse 35 = .ok (.iconst 1, 1) := by decide +kernel
theorem dX3_refuse_36 : decode cX3_refuse 36 = .ok (.iadd, 1) := by decide +kernel
theorem dX3_refuse_37 : decode cX3_refuse 37 = .ok (.iastore, 1) := by decide +kernel
theorem dX3_refuse_38 : decode cX3_refuse 38 = .ok (.aload_n 0, 1) := by decide +kernel
theorem dX3_refuse_39 : decode cX3_refuse 39 = .ok (.iload_n 1, 1) := by decide +kernel
theorem dX3_refuse_40 : decode cX3_refuse 40 = .ok (.invokevirtual 112, 3) := by decide +kernel
theorem dX3_refuse_43 : decode cX3_refuse 43 = .ok (.iload 4, 2) := by decide +kernel
theorem dX3_refuse_45 : decode cX3_refuse 45 = .ok (.iconst 4, 1) := by decide +kernel
theorem dX3_refuse_46 : decode cX3_refuse 46 = .ok (.if_icmp .ne 9, 3) := by decide +kernel
theorem dX3_refuse_49 : decode cX3_refuse 49 = .ok (.aload_n 0, 1) := by decide +kernel
theorem dX3_refuse_50 : decode cX3_refuse 50 = .ok (.iload_n 2, 1) := by decide +kernel
theorem dX3_refuse_51 : decode cX3_refuse 51 = .ok (.iconst 2, 1) := by decide +kernel
theorem dX3_refuse_52 : decode cX3_refuse 52 = .ok (.invokevirtual 108, 3) := by decide +kernel
theorem dX3_refuse_55 : decode cX3_refuse 55 = .ok (.return_, 1) := by decide +kernel
theorem dX3_takeCredit_0 : decode cX3_takeCredit 0 = .ok (.iload_n 1, 1) := by decide +kernel
theorem dX3_takeCredit_1 : decode cX3_takeCredit 1 = .ok (.bipush (-6), 2) := by decide +kernel
theorem dX3_takeCredit_3 : decode cX3_takeCredit 3 = .ok (.if_icmp .eq 21, 3) := by decide +kernel
theorem dX3_takeCredit_6 : decode cX3_takeCredit 6 = .ok (.aload_n 0, 1) := by decide +kernel
theorem dX3_takeCredit_7 : decode cX3_takeCredit 7 = .ok (.getfield 34, 3) := by decide +kernel
theorem dX3_takeCredit_10 : decode cX3_takeCredit 10 = .ok (.iload_n 1, 1) := by decide +kernel
theorem dX3_takeCredit_11 : decode cX3_takeCredit 11 = .ok (.iconst 0, 1) := by decide +kernel
theorem dX3_takeCredit_12 : decode cX3_takeCredit 12 = .ok (.aload_n 0, 1) := by decide +kernel
theorem dX3_takeCredit_13 : decode cX3_takeCredit 13 = .ok (.getfield 34, 3) := by decide +kernel
theorem dX3_takeCredit_16 : decode cX3_takeCredit 16 = .ok (.iload_n 1, 1) := by decide +kernel
theorem dX3_takeCredit_17 : decode cX3_takeCredit 17 = .ok (.iaload, 1) := by decide +kernel
theorem dX3_takeCredit_18 : decode cX3_takeCredit 18 = .ok (.iload_n 2, 1) := by decide +kernel
theorem dX3_takeCredit_19 : decode cX3_takeCredit 19 = .ok (.isub, 1) := by decide +kernel
theorem dX3_takeCredit_20 : decode cX3_takeCredit 20 = .ok (.invokestatic 79, 3) := by decide +kernel
theorem dX3_takeCredit_23 : decode cX3_takeCredit 23 = .ok (.iastore, 1) := by decide +kernel
theorem dX3_takeCredit_24 : decode cX3_takeCredit 24 = .ok (.return_, 1) := by decide +kernel
set_option maxRecDepth 20000 in
theorem ggX3_angerMasterOf_X4_classOf : GoodIn wsX3_angerMasterOf wsX4_classOf := goodIn_r _ [8] (by decide +kernel) (by decide +kernel)
set_option maxRecDepth 20000 in
theorem gX3_angerMasterOf_X4_classOf_n73 : GoodIn wsX3_angerMasterOf (wsX4_classOf) := ggX3_angerMasterOf_X4_classOf
theorem dX3_angerMasterOf_0 : decode cX3_angerMasterOf 0 = .ok (.iload_n 1, 1) := by decide +kernel
theorem dX3_angerMasterOf_1 : decode cX3_angerMasterOf 1 = .ok (.invokestatic 73, 3) := by decide +kernel
theorem dX3_angerMasterOf_4 : decode cX3_angerMasterOf 4 = .ok (.istore_n 2, 1) := by decide +kernel
theorem dX3_angerMasterOf_5 : decode cX3_angerMasterOf 5 = .ok (.aload_n 0, 1) := by decide +kernel
theorem dX3_angerMasterOf_6 : decode cX3_angerMasterOf 6 = .ok (.getfield 52, 3) := by decide +kernel
theorem dX3_angerMasterOf_9 : decode cX3_angerMasterOf 9 = .ok (.iload_n 2, 1) := by decide +kernel
theorem dX3_angerMasterOf_10 : decode cX3_angerMasterOf 10 = .ok (.bipush 9, 2) := by decide +kernel
theorem dX3_angerMasterOf_12 : decode cX3_angerMasterOf 12 = .ok (.aload_n 0, 1) := by decide +kernel
theorem dX3_angerMasterOf_13 : decode cX3_angerMasterOf 13 = .ok (.getfield 52, 3) := by decide +kernel
theorem dX3_angerMasterOf_16 : decode cX3_angerMasterOf 16 = .ok (.iload_n 2, 1) := by decide +kernel
theorem dX3_angerMasterOf_17 : decode cX3_angerMasterOf 17 = .ok (.iaload, 1) := by decide +kernel
theorem dX3_angerMasterOf_18 : decode cX3_angerMasterOf 18 = .ok (.iconst 1, 1) := by decide +kernel
theorem dX3_angerMasterOf_19 : decode cX3_angerMasterOf 19 = .ok (.iadd, 1) := by decide +kernel
theorem dX3_angerMasterOf_20 : decode cX3_angerMasterOf 20 = .ok (.invokestatic 116, 3) := by decide +kernel
theorem dX3_angerMasterOf_23 : decode cX3_angerMasterOf 23 = .ok (.iastore, 1) := by decide +kernel
theorem dX3_angerMasterOf_24 : decode cX3_angerMasterOf 24 = .ok (.return_, 1) := by decide +kernel
theorem dX3_beginNextTerm_0 : decode cX3_beginNextTerm 0 = .ok (.iconst 0, 1) := by decide +kernel
theorem dX3_beginNextTerm_1 : decode cX3_beginNextTerm 1 = .ok (.istore_n 1, 1) := by decide +kernel
theorem dX3_beginNextTerm_2 : decode cX3_beginNextTerm 2 = .ok (.iload_n 1, 1) := by decide +kernel
theorem dX3_beginNextTerm_3 : decode cX3_beginNextTerm 3 = .ok (.aload_n 0, 1) := by decide +kernel
theorem dX3_beginNextTerm_4 : decode cX3_beginNextTerm 4 = .ok (.getfield 31, 3) := by decide +kernel
theorem dX3_beginNextTerm_7 : decode cX3_beginNextTerm 7 = .ok (.arraylength, 1) := by decide +kernel
theorem dX3_beginNextTerm_8 : decode cX3_beginNextTerm 8 = .ok (.if_icmp .ge 16, 3) := by decide +kernel
theorem dX3_beginNextTerm_11 : decode cX3_beginNextTerm 11 = .ok (.aload_n 0, 1) := by decide +kernel
theorem dX3_beginNextTerm_12 : decode cX3_beginNextTerm 12 = .ok (.getfield 31, 3) := by decide +kernel
theorem dX3_beginNextTerm_15 : decode cX3_beginNextTerm 15 = .ok (.iload_n 1, 1) := by decide +kernel
theorem dX3_beginNextTerm_16 : decode cX3_beginNextTerm 16 = .ok (.iconst 0, 1) := by decide +kernel
theorem dX3_beginNextTerm_17 : decode cX3_beginNextTerm 17 = .ok (.iastore, 1) := by decide +kernel
theorem dX3_beginNextTerm_18 : decode cX3_beginNextTerm 18 = .ok (.iinc 1 1, 3) := by decide +kernel
theorem dX3_beginNextTerm_21 : decode cX3_beginNextTerm 21 = .ok (.goto (-19), 3) := by decide +kernel
theorem dX3_beginNextTerm_24 : decode cX3_beginNextTerm 24 = .ok (.iconst 0, 1) := by decide +kernel
theorem dX3_beginNextTerm_25 : decode cX3_beginNextTerm 25 = .ok (.istore_n 1, 1) := by decide +kernel
theorem dX3_beginNextTerm_26 : decode cX3_beginNextTerm 26 = .ok (.iload_n 1, 1) := by decide +kernel
theorem dX3_beginNextTerm_27 : decode cX3_beginNextTerm 27 = .ok (.bipush 10, 2) := by decide +kernel
theorem dX3_beginNextTerm_29 : decode cX3_beginNextTerm 29 = .ok (.if_icmp .ge 36, 3) := by decide +kernel
theorem dX3_beginNextTerm_32 : decode cX3_beginNextTerm 32 = .ok (.aload_n 0, 1) := by decide +kernel
theorem dX3_beginNextTerm_33 : decode cX3_beginNextTerm 33 = .ok (.getfield 49, 3) := by decide +kernel
theorem dX3_beginNextTerm_36 : decode cX3_beginNextTerm 36 = .ok (.iload_n 1, 1) := by decide +kernel
theorem dX3_beginNextTerm_37 : decode cX3_beginNextTerm 37 = .ok (.bipush (-6), 2) := by decide +kernel
theorem dX3_beginNextTerm_39 : decode cX3_beginNextTerm 39 = .ok (.iastore, 1) := by decide +kernel
theorem dX3_beginNextTerm_40 : decode cX3_beginNextTerm 40 = .ok (.aload_n 0, 1) := by decide +kernel
theorem dX3_beginNextTerm_41 : decode cX3_beginNextTerm 41 = .ok (.getfield 34, 3) := by decide +kernel
theorem dX3_beginNextTerm_44 : decode cX3_beginNextTerm 44 = .ok (.iload_n 1, 1) := by decide +kernel
theorem dX3_beginNextTerm_45 : decode cX3_beginNextTerm 45 = .ok (.bipush 9, 2) := by decide +kernel
theorem dX3_beginNextTerm_47 : decode cX3_beginNextTerm 47 = .ok (.aload_n 0, 1) := by decide +kernel
theorem dX3_beginNextTerm_48 : decode cX3_beginNextTerm 48 = .ok (.getfield 34, 3) := by decide +kernel
theorem dX3_beginNextTerm_51 : decode cX3_beginNextTerm 51 = .ok (.iload_n 1, 1) := by decide +kernel
theorem dX3_beginNextTerm_52 : decode cX3_beginNextTerm 52 = .ok (.iaload, 1) := by decide +kernel
theorem dX3_beginNextTerm_53 : decode cX3_beginNextTerm 53 = .ok (.iconst 2, 1) := by decide +kernel
theorem dX3_beginNextTerm_54 : decode cX3_beginNextTerm 54 = .ok (.iadd, 1) := by decide +kernel
theorem dX3_beginNextTerm_55 : decode cX3_beginNextTerm 55 = .ok (.invokestatic 116, 3) := by decide +kernel
theorem dX3_beginNextTerm_58 : decode cX3_beginNextTerm 58 = .ok (.iastore, 1) := by decide +kernel
theorem dX3_beginNextTerm_59 : decode cX3_beginNextTerm 59 = .ok (.iinc 1 1, 3) := by decide +kernel
theorem dX3_beginNextTerm_62 : decode cX3_beginNextTerm 62 = .ok (.goto (-36), 3) := by decide +kernel
theorem dX3_beginNextTerm_65 : decode cX3_beginNextTerm 65 = .ok (.iconst 0, 1) := by decide +kernel
theorem dX3_beginNextTerm_66 : decode cX3_beginNextTerm 66 = .ok (.istore_n 1, 1) := by decide +kernel
theorem dX3_beginNextTerm_67 : decode cX3_beginNextTerm 67 = .ok (.iload_n 1, 1) := by decide +kernel
theorem dX3_beginNextTerm_68 : decode cX3_beginNextTerm 68 = .ok (.iconst 5, 1) := by decide +kernel
theorem dX3_beginNextTerm_69 : decode cX3_beginNextTerm 69 = .ok (.if_icmp .ge 23, 3) := by decide +kernel
theorem dX3_beginNextTerm_72 : decode cX3_beginNextTerm 72 = .ok (.aload_n 0, 1) := by decide +kernel
theorem dX3_beginNextTerm_73 : decode cX3_beginNextTerm 73 = .ok (.getfield 52, 3) := by decide +kernel
theorem dX3_beginNextTerm_76 : decode cX3_beginNextTerm 76 = .ok (.iload_n 1, 1) := by decide +kernel
theorem dX3_beginNextTerm_77 : decode cX3_beginNextTerm 77 = .ok (.aload_n 0, 1) := by decide +kernel
theorem dX3_beginNextTerm_78 : decode cX3_beginNextTerm 78 = .ok (.getfield 52, 3) := by decide +kernel
theorem dX3_beginNextTerm_81 : decode cX3_beginNextTerm 81 = .ok (.iload_n 1, 1) := by decide +kernel
theorem dX3_beginNextTerm_82 : decode cX3_beginNextTerm 82 = .ok (.iaload, 1) := by decide +kernel
theorem dX3_beginNextTerm_83 : decode cX3_beginNextTerm 83 = .ok (.iconst 2, 1) := by decide +kernel
theorem dX3_beginNextTerm_84 : decode cX3_beginNextTerm 84 = .ok (.idiv, 1) := by decide +kernel
theorem dX3_beginNextTerm_85 : decode cX3_beginNextTerm 85 = .ok (.iastore, 1) := by decide +kernel
theorem dX3_beginNextTerm_86 : decode cX3_beginNextTerm 86 = .ok (.iinc 1 1, 3) := by decide +kernel
theorem dX3_beginNextTerm_89 : decode cX3_beginNextTerm 89 = .ok (.goto (-22), 3) := by decide +kernel
theorem dX3_beginNextTerm_92 : decode cX3_beginNextTerm 92 = .ok (.aload_n 0, 1) := by decide +kernel
theorem dX3_beginNextTerm_93 : decode cX3_beginNextTerm 93 = .ok (.dup, 1) := by decide +kernel
theorem dX3_beginNextTerm_94 : decode cX3_beginNextTerm 94 = .ok (.getfield 58, 3) := by decide +kernel
theorem dX3_beginNextTerm_97 : decode cX3_beginNextTerm 97 = .ok (.iconst 1, 1) := by decide +kernel
theorem dX3_beginNextTerm_98 : decode cX3_beginNextTerm 98 = .ok (.iadd, 1) := by decide +kernel
theorem dX3_beginNextTerm_99 : decode cX3_beginNextTerm 99 = .ok (.putfield 58, 3) := by decide +kernel
theorem dX3_beginNextTerm_102 : decode cX3_beginNextTerm 102 = .ok (.return_, 1) := by decide +kernel
end
section
theorem inlX4 : ∀ w ∈ wsX40, w ∈ wsL_law := fun _ h => List.mem_append_left _ (List.mem_append_left _ (List.mem_append_left _ (List.mem_append_left _ (List.mem_append_left _ (List.mem_append_right _ h)))))
set_option maxRecDepth 20000 in
theorem ggX4_init_X3_init : GoodIn wsX4_init wsX3_init := goodIn_r _ [25, 26, 2, 3, 27, 28, 29, 30, 31, 32, 33, 34, 35, 36, 37, 38, 39, 40, 41, 42, 43, 44, 45, 46, 47, 48, 49, 50, 51, 52, 53, 77, 78, 79, 80, 81, 82, 83, 84, 85, 86, 87, 88, 89, 90, 91] (by decide +kernel) (by decide +kernel)
set_option maxRecDepth 20000 in
theorem gX4_init_X3_init : GoodIn wsX4_init (wsX3_init) := ggX4_init_X3_init
set_option maxRecDepth 20000 in
theorem ggX4_init_X0_init : GoodIn wsX4_init wsX0_init := goodIn_r _ [56, 57, 2, 3, 58, 59, 60, 61, 5, 6, 62, 24, 25, 26, 27, 28, 29, 30, 31, 32, 33, 34, 35, 36, 37, 38, 39, 40, 41, 42, 43, 44, 45, 46, 47, 48, 49, 50, 51, 52, 53, 98, 99, 100, 77, 78, 79, 80, 81, 82, 83, 84, 85, 86, 87, 88, 89, 90, 91] (by decide +kernel) (by decide +kernel)
set_option maxRecDepth 20000 in
theorem gX4_init_X0_init : GoodIn wsX4_init (wsX0_init) := ggX4_init_X0_init
set_option maxRecDepth 20000 in
theorem ggX4_init_X1_init : GoodIn wsX4_init wsX1_init := goodIn_r _ [64, 65, 2, 3, 66, 67, 68, 101, 102] (by decide +kernel) (by decide +kernel)
set_option maxRecDepth 20000 in
theorem gX4_init_X1_init_n33 : GoodIn wsX4_init (wsX1_init) := ggX4_init_X1_init
set_option maxRecDepth 20000 in
theorem ggX4_init_X2_init : GoodIn wsX4_init wsX2_init := goodIn_r _ [70, 71, 2, 3, 72, 73, 74, 75, 76, 103, 104, 105, 106, 107] (by decide +kernel) (by decide +kernel)
set_option maxRecDepth 20000 in
theorem gX4_init_X2_init_n40 : GoodIn wsX4_init (wsX2_init) := ggX4_init_X2_init
theorem dX4_init_0 : decode cX4_init 0 = .ok (.aload_n 0, 1) := by decide +kernel
theorem dX4_init_1 : decode cX4_init 1 = .ok (.invokespecial 1, 3) := by decide +kernel
theorem dX4_init_4 : decode cX4_init 4 = .ok (.aload_n 0, 1) := by decide +kernel
theorem dX4_init_5 : decode cX4_init 5 = .ok (.new 7, 3) := by decide +kernel
theorem dX4_init_8 : decode cX4_init 8 = .ok (.dup, 1) := by decide +kernel
theorem dX4_init_9 : decode cX4_init 9 = .ok (.invokespecial 9, 3) := by decide +kernel
theorem dX4_init_12 : decode cX4_init 12 = .ok (.putfield 10, 3) := by decide +kernel
theorem dX4_init_15 : decode cX4_init 15 = .ok (.aload_n 0, 1) := by decide +kernel
theorem dX4_init_16 : decode cX4_init 16 = .ok (.new 16, 3) := by decide +kernel
theorem dX4_init_19 : decode cX4_init 19 = .ok (.dup, 1) := by decide +kernel
theorem dX4_init_20 : decode cX4_init 20 = .ok (.invokespecial 18, 3) := by decide +kernel
theorem dX4_init_23 : decode cX4_init 23 = .ok (.putfield 19, 3) := by decide +kernel
theorem dX4_init_26 : decode cX4_init 26 = .ok (.aload_n 0, 1) := by decide +kernel
theorem dX4_init_27 : decode cX4_init 27 = .ok (.iconst 2, 1) := by decide +kernel
theorem dX4_init_28 : decode cX4_init 28 = .ok (.anewarray 7, 3) := by decide +kernel
theorem dX4_init_31 : decode cX4_init 31 = .ok (.putfield 23, 3) := by decide +kernel
theorem dX4_init_34 : decode cX4_init 34 = .ok (.iconst 0, 1) := by decide +kernel
theorem dX4_init_35 : decode cX4_init 35 = .ok (.istore_n 1, 1) := by decide +kernel
theorem dX4_init_36 : decode cX4_init 36 = .ok (.iload_n 1, 1) := by decide +kernel
theorem dX4_init_37 : decode cX4_init 37 = .ok (.iconst 2, 1) := by decide +kernel
theorem dX4_init_38 : decode cX4_init 38 = .ok (.if_icmp .ge 22, 3) := by decide +kernel
theorem dX4_init_41 : decode cX4_init 41 = .ok (.aload_n 0, 1) := by decide +kernel
theorem dX4_init_42 : decode cX4_init 42 = .ok (.getfield 23, 3) := by decide +kernel
theorem dX4_init_45 : decode cX4_init 45 = .ok (.iload_n 1, 1) := by decide +kernel
theorem dX4_init_46 : decode cX4_init 46 = .ok (.new 7, 3) := by decide +kernel
theorem dX4_init_49 : decode cX4_init 49 = .ok (.dup, 1) := by decide +kernel
theorem dX4_init_50 : decode cX4_init 50 = .ok (.invokespecial 9, 3) := by decide +kernel
theorem dX4_init_53 : decode cX4_init 53 = .ok (.aastore, 1) := by decide +kernel
theorem dX4_init_54 : decode cX4_init 54 = .ok (.iinc 1 1, 3) := by decide +kernel
theorem dX4_init_57 : decode cX4_init 57 = .ok (.goto (-21), 3) := by decide +kernel
theorem dX4_init_60 : decode cX4_init 60 = .ok (.aload_n 0, 1) := by decide +kernel
theorem dX4_init_61 : decode cX4_init 61 = .ok (.iconst 2, 1) := by decide +kernel
theorem dX4_init_62 : decode cX4_init 62 = .ok (.newarray .boolean, 2) := by decide +kernel
theorem dX4_init_64 : decode cX4_init 64 = .ok (.putfield 27, 3) := by decide +kernel
theorem dX4_init_67 : decode cX4_init 67 = .ok (.aload_n 0, 1) := by decide +kernel
theorem dX4_init_68 : decode cX4_init 68 = .ok (.new 31, 3) := by decide +kernel
theorem dX4_init_71 : decode cX4_init 71 = .ok (.dup, 1) := by decide +kernel
theorem dX4_init_72 : decode cX4_init 72 = .ok (.invokespecial 33, 3) := by decide +kernel
theorem dX4_init_75 : decode cX4_init 75 = .ok (.putfield 34, 3) := by decide +kernel
theorem dX4_init_78 : decode cX4_init 78 = .ok (.aload_n 0, 1) := by decide +kernel
theorem dX4_init_79 : decode cX4_init 79 = .ok (.new 38, 3) := by decide +kernel
theorem dX4_init_82 : decode cX4_init 82 = .ok (.dup, 1) := by decide +kernel
theorem dX4_init_83 : decode cX4_init 83 = .ok (.invokespecial 40, 3) := by decide +kernel
theorem dX4_init_86 : decode cX4_init 86 = .ok (.putfield 41, 3) := by decide +kernel
theorem dX4_init_89 : decode cX4_init 89 = .ok (.return_, 1) := by decide +kernel
set_option maxRecDepth 20000 in
theorem ggX4_set_X4_isWithin : GoodIn wsX4_set wsX4_isWithin := goodIn_r _ [10] (by decide +kernel) (by decide +kernel)
set_option maxRecDepth 20000 in
theorem gX4_set_X4_isWithin : GoodIn wsX4_set (va_wsS RX4 49 yX4_isWithin wsX4_isWithin) := goodIn_app (goodIn_of _ (by decide +kernel)) ggX4_set_X4_isWithin
set_option maxRecDepth 20000 in
theorem ggX4_set_X0_keep : GoodIn wsX4_set wsX0_keep := goodIn_r _ [15, 16, 17, 18, 19, 20, 21, 22, 23, 24, 25, 26, 27, 28, 29, 30, 31, 32, 33, 34, 35, 36, 37, 38, 39, 40, 41, 42, 43, 9, 44, 45, 46, 47, 48, 49, 71, 72, 73, 56, 57, 58, 59, 60, 61, 62, 63, 64, 65, 66, 67, 68, 69, 70] (by decide +kernel) (by decide +kernel)
set_option maxRecDepth 20000 in
theorem gX4_set_X0_keep : GoodIn wsX4_set (wsV RX4 59 RX0 yX0_keep wsX0_keep) := goodIn_app (goodIn_of _ (by decide +kernel)) ggX4_set_X0_keep
theorem dX4_set_0 : decode cX4_set 0 = .ok (.iload_n 1, 1) := by decide +kernel
theorem dX4_set_1 : decode cX4_set 1 = .ok (.iconst 0, 1) := by decide +kernel
theorem dX4_set_2 : decode cX4_set 2 = .ok (.getstatic 45, 3) := by decide +kernel
theorem dX4_set_5 : decode cX4_set 5 = .ok (.arraylength, 1) := by decide +kernel
theorem dX4_set_6 : decode cX4_set 6 = .ok (.iconst 1, 1) := by decide +kernel
theorem dX4_set_7 : decode cX4_set 7 = .ok (.isub, 1) := by decide +kernel
theorem dX4_set_8 : decode cX4_set 8 = .ok (.invokestatic 49, 3) := by decide +kernel
theorem dX4_set_11 : decode cX4_set 11 = .ok (.ifCond .ne 6, 3) := by decide +kernel
theorem dX4_set_14 : decode cX4_set 14 = .ok (.bipush (-2), 2) := by decide +kernel
theorem dX4_set_16 : decode cX4_set 16 = .ok (.ireturn, 1) := by decide +kernel
theorem dX4_set_17 : decode cX4_set 17 = .ok (.iload_n 2, 1) := by decide +kernel
theorem dX4_set_18 : decode cX4_set 18 = .ok (.getstatic 53, 3) := by decide +kernel
theorem dX4_set_21 : decode cX4_set 21 = .ok (.iload_n 1, 1) := by decide +kernel
theorem dX4_set_22 : decode cX4_set 22 = .ok (.iaload, 1) := by decide +kernel
theorem dX4_set_23 : decode cX4_set 23 = .ok (.getstatic 56, 3) := by decide +kernel
theorem dX4_set_26 : decode cX4_set 26 = .ok (.iload_n 1, 1) := by decide +kernel
theorem dX4_set_27 : decode cX4_set 27 = .ok (.iaload, 1) := by decide +kernel
theorem dX4_set_28 : decode cX4_set 28 = .ok (.invokestatic 49, 3) := by decide +kernel
theorem dX4_set_31 : decode cX4_set 31 = .ok (.ifCond .ne 6, 3) := by decide +kernel
theorem dX4_set_34 : decode cX4_set 34 = .ok (.bipush (-2), 2) := by decide +kernel
theorem dX4_set_36 : decode cX4_set 36 = .ok (.ireturn, 1) := by decide +kernel
theorem dX4_set_37 : decode cX4_set 37 = .ok (.aload_n 0, 1) := by decide +kernel
theorem dX4_set_38 : decode cX4_set 38 = .ok (.getfield 19, 3) := by decide +kernel
theorem dX4_set_41 : decode cX4_set 41 = .ok (.aload_n 0, 1) := by decide +kernel
theorem dX4_set_42 : decode cX4_set 42 = .ok (.getfield 10, 3) := by decide +kernel
theorem dX4_set_45 : decode cX4_set 45 = .ok (.invokevirtual 59, 3) := by decide +kernel
theorem dX4_set_48 : decode cX4_set 48 = .ok (.aload_n 0, 1) := by decide +kernel
theorem dX4_set_49 : decode cX4_set 49 = .ok (.getfield 10, 3) := by decide +kernel
theorem dX4_set_52 : decode cX4_set 52 = .ok (.getfield 63, 3) := by decide +kernel
theorem dX4_set_55 : decode cX4_set 55 = .ok (.iload_n 1, 1) := by decide +kernel
theorem dX4_set_56 : decode cX4_set 56 = .ok (.iaload, 1) := by decide +kernel
theorem dX4_set_57 : decode cX4_set 57 = .ok (.istore_n 3, 1) := by decide +kernel
theorem dX4_set_58 : decode cX4_set 58 = .ok (.aload_n 0, 1) := by decide +kernel
theorem dX4_set_59 : decode cX4_set 59 = .ok (.getfield 10, 3) := by decide +kernel
theorem dX4_set_62 : decode cX4_set 62 = .ok (.getfield 63, 3) := by decide +kernel
theorem dX4_set_65 : decode cX4_set 65 = .ok (.iload_n 1, 1) := by decide +kernel
theorem dX4_set_66 : decode cX4_set 66 = .ok (.iload_n 2, 1) := by decide +kernel
theorem dX4_set_67 : decode cX4_set 67 = .ok (.iastore, 1) := by decide +kernel
theorem dX4_set_68 : decode cX4_set 68 = .ok (.iload_n 3, 1) := by decide +kernel
theorem dX4_set_69 : decode cX4_set 69 = .ok (.ireturn, 1) := by decide +kernel
set_option maxRecDepth 20000 in
theorem ggX4_add_X4_isWithin : GoodIn wsX4_add wsX4_isWithin := goodIn_r _ [7] (by decide +kernel) (by decide +kernel)
set_option maxRecDepth 20000 in
theorem gX4_add_X4_isWithin : GoodIn wsX4_add (va_wsS RX4 49 yX4_isWithin wsX4_isWithin) := goodIn_app (goodIn_of _ (by decide +kernel)) ggX4_add_X4_isWithin
set_option maxRecDepth 20000 in
theorem ggX4_add_X0_keep : GoodIn wsX4_add wsX0_keep := goodIn_r _ [12, 13, 14, 15, 16, 17, 18, 19, 20, 21, 22, 23, 24, 25, 26, 27, 28, 29, 30, 31, 32, 33, 34, 35, 36, 37, 38, 39, 40, 6, 41, 42, 43, 44, 45, 46, 72, 73, 74, 57, 58, 59, 60, 61, 62, 63, 64, 65, 66, 67, 68, 69, 70, 71] (by decide +kernel) (by decide +kernel)
set_option maxRecDepth 20000 in
theorem gX4_add_X0_keep : GoodIn wsX4_add (wsV RX4 59 RX0 yX0_keep wsX0_keep) := goodIn_app (goodIn_of _ (by decide +kernel)) ggX4_add_X0_keep
set_option maxRecDepth 20000 in
theorem ggX4_add_X3_addExcuse : GoodIn wsX4_add wsX3_addExcuse := goodIn_r _ [50, 27, 26, 28, 57, 58, 59, 60, 61, 62, 63, 64, 65, 66, 67, 68, 69, 70, 71] (by decide +kernel) (by decide +kernel)
set_option maxRecDepth 20000 in
theorem gX4_add_X3_addExcuse : GoodIn wsX4_add (wsV RX4 70 RX3 yX3_addExcuse wsX3_addExcuse) := goodIn_app (goodIn_of _ (by decide +kernel)) ggX4_add_X3_addExcuse
theorem dX4_add_0 : decode cX4_add 0 = .ok (.iload_n 1, 1) := by decide +kernel
theorem dX4_add_1 : decode cX4_add 1 = .ok (.iconst 0, 1) := by decide +kernel
theorem dX4_add_2 : decode cX4_add 2 = .ok (.iconst 4, 1) := by decide +kernel
theorem dX4_add_3 : decode cX4_add 3 = .ok (.invokestatic 49, 3) := by decide +kernel
theorem dX4_add_6 : decode cX4_add 6 = .ok (.ifCond .eq 13, 3) := by decide +kernel
theorem dX4_add_9 : decode cX4_add 9 = .ok (.iload_n 2, 1) := by decide +kernel
theorem dX4_add_10 : decode cX4_add 10 = .ok (.iconst 1, 1) := by decide +kernel
theorem dX4_add_11 : decode cX4_add 11 = .ok (.bipush 99, 2) := by decide +kernel
theorem dX4_add_13 : decode cX4_add 13 = .ok (.invokestatic 49, 3) := by decide +kernel
theorem dX4_add_16 : decode cX4_add 16 = .ok (.ifCond .ne 6, 3) := by decide +kernel
theorem dX4_add_19 : decode cX4_add 19 = .ok (.bipush (-2), 2) := by decide +kernel
theorem dX4_add_21 : decode cX4_add 21 = .ok (.ireturn, 1) := by decide +kernel
theorem dX4_add_22 : decode cX4_add 22 = .ok (.aload_n 0, 1) := by decide +kernel
theorem dX4_add_23 : decode cX4_add 23 = .ok (.getfield 10, 3) := by decide +kernel
theorem dX4_add_26 : decode cX4_add 26 = .ok (.getfield 66, 3) := by decide +kernel
theorem dX4_add_29 : decode cX4_add 29 = .ok (.bipush 12, 2) := by decide +kernel
theorem dX4_add_31 : decode cX4_add 31 = .ok (.if_icmp .lt 6, 3) := by decide +kernel
theorem dX4_add_34 : decode cX4_add 34 = .ok (.bipush (-4), 2) := by decide +kernel
theorem dX4_add_36 : decode cX4_add 36 = .ok (.ireturn, 1) := by decide +kernel
theorem dX4_add_37 : decode cX4_add 37 = .ok (.aload_n 0, 1) := by decide +kernel
theorem dX4_add_38 : decode cX4_add 38 = .ok (.getfield 19, 3) := by decide +kernel
theorem dX4_add_41 : decode cX4_add 41 = .ok (.aload_n 0, 1) := by decide +kernel
theorem dX4_add_42 : decode cX4_add 42 = .ok (.getfield 10, 3) := by decide +kernel
theorem dX4_add_45 : decode cX4_add 45 = .ok (.invokevirtual 59, 3) := by decide +kernel
theorem dX4_add_48 : decode cX4_add 48 = .ok (.aload_n 0, 1) := by decide +kernel
theorem dX4_add_49 : decode cX4_add 49 = .ok (.getfield 10, 3) := by decide +kernel
theorem dX4_add_52 : decode cX4_add 52 = .ok (.iload_n 1, 1) := by decide +kernel
theorem dX4_add_53 : decode cX4_add 53 = .ok (.iload_n 2, 1) := by decide +kernel
theorem dX4_add_54 : decode cX4_add 54 = .ok (.invokevirtual 70, 3) := by decide +kernel
theorem dX4_add_57 : decode cX4_add 57 = .ok (.ireturn, 1) := by decide +kernel
set_option maxRecDepth 20000 in
theorem ggX4_worth_X3_hasExcuse : GoodIn wsX4_worth wsX3_hasExcuse := goodIn_r _ [8, 9, 57, 58, 59, 60, 61, 62, 63, 64, 65, 66, 67, 68, 69, 70, 71] (by decide +kernel) (by decide +kernel)
set_option maxRecDepth 20000 in
theorem gX4_worth_X3_hasExcuse : GoodIn wsX4_worth (wsV RX4 74 RX3 yX3_hasExcuse wsX3_hasExcuse) := goodIn_app (goodIn_of _ (by decide +kernel)) ggX4_worth_X3_hasExcuse
set_option maxRecDepth 20000 in
theorem ggX4_worth_X4_isWithin : GoodIn wsX4_worth wsX4_isWithin := goodIn_r _ [13] (by decide +kernel) (by decide +kernel)
set_option maxRecDepth 20000 in
theorem gX4_worth_X4_isWithin : GoodIn wsX4_worth (va_wsS RX4 49 yX4_isWithin wsX4_isWithin) := goodIn_app (goodIn_of _ (by decide +kernel)) ggX4_worth_X4_isWithin
set_option maxRecDepth 20000 in
theorem ggX4_worth_X0_keep : GoodIn wsX4_worth wsX0_keep := goodIn_r _ [18, 19, 20, 21, 22, 23, 24, 25, 26, 27, 28, 7, 29, 30, 9, 31, 32, 33, 34, 35, 36, 37, 38, 39, 40, 41, 42, 43, 44, 12, 45, 46, 47, 48, 49, 50, 72, 73, 74, 57, 58, 59, 60, 61, 62, 63, 64, 65, 66, 67, 68, 69, 70, 71] (by decide +kernel) (by decide +kernel)
set_option maxRecDepth 20000 in
theorem gX4_worth_X0_keep : GoodIn wsX4_worth (wsV RX4 59 RX0 yX0_keep wsX0_keep) := goodIn_app (goodIn_of _ (by decide +kernel)) ggX4_worth_X0_keep
theorem dX4_worth_0 : decode cX4_worth 0 = .ok (.aload_n 0, 1) := by decide +kernel
theorem dX4_worth_1 : decode cX4_worth 1 = .ok (.getfield 10, 3) := by decide +kernel
theorem dX4_worth_4 : decode cX4_worth 4 = .ok (.iload_n 1, 1) := by decide +kernel
theorem dX4_worth_5 : decode cX4_worth 5 = .ok (.invokevirtual 74, 3) := by decide +kernel
theorem dX4_worth_8 : decode cX4_worth 8 = .ok (.ifCond .ne 5, 3) := by decide +kernel
theorem dX4_worth_11 : decode cX4_worth 11 = .ok (.iconst (-1), 1) := by decide +kernel
theorem dX4_worth_12 : decode cX4_worth 12 = .ok (.ireturn, 1) := by decide +kernel
theorem dX4_worth_13 : decode cX4_worth 13 = .ok (.iload_n 2, 1) := by decide +kernel
theorem dX4_worth_14 : decode cX4_worth 14 = .ok (.iconst 1, 1) := by decide +kernel
theorem dX4_worth_15 : decode cX4_worth 15 = .ok (.bipush 99, 2) := by decide +kernel
theorem dX4_worth_17 : decode cX4_worth 17 = .ok (.invokestatic 49, 3) := by decide +kernel
theorem dX4_worth_20 : decode cX4_worth 20 = .ok (.ifCond .ne 6, 3) := by decide +kernel
theorem dX4_worth_23 : decode cX4_worth 23 = .ok (.bipush (-2), 2) := by decide +kernel
theorem dX4_worth_25 : decode cX4_worth 25 = .ok (.ireturn, 1) := by decide +kernel
theorem dX4_worth_26 : decode cX4_worth 26 = .ok (.aload_n 0, 1) := by decide +kernel
theorem dX4_worth_27 : decode cX4_worth 27 = .ok (.getfield 19, 3) := by decide +kernel
theorem dX4_worth_30 : decode cX4_worth 30 = .ok (.aload_n 0, 1) := by decide +kernel
theorem dX4_worth_31 : decode cX4_worth 31 = .ok (.getfield 10, 3) := by decide +kernel
theorem dX4_worth_34 : decode cX4_worth 34 = .ok (.invokevirtual 59, 3) := by decide +kernel
theorem dX4_worth_37 : decode cX4_worth 37 = .ok (.aload_n 0, 1) := by decide +kernel
theorem dX4_worth_38 : decode cX4_worth 38 = .ok (.getfield 10, 3) := by decide +kernel
theorem dX4_worth_41 : decode cX4_worth 41 = .ok (.getfield 78, 3) := by decide +kernel
theorem dX4_worth_44 : decode cX4_worth 44 = .ok (.iload_n 1, 1) := by decide +kernel
theorem dX4_worth_45 : decode cX4_worth 45 = .ok (.iaload, 1) := by decide +kernel
theorem dX4_worth_46 : decode cX4_worth 46 = .ok (.istore_n 3, 1) := by decide +kernel
theorem dX4_worth_47 : decode cX4_worth 47 = .ok (.aload_n 0, 1) := by decide +kernel
theorem dX4_worth_48 : decode cX4_worth 48 = .ok (.getfield 10, 3) := by decide +kernel
theorem dX4_worth_51 : decode cX4_worth 51 = .ok (.getfield 78, 3) := by decide +kernel
theorem dX4_worth_54 : decode cX4_worth 54 = .ok (.iload_n 1, 1) := by decide +kernel
theorem dX4_worth_55 : decode cX4_worth 55 = .ok (.iload_n 2, 1) := by decide +kernel
theorem dX4_worth_56 : decode cX4_worth 56 = .ok (.iastore, 1) := by decide +kernel
theorem dX4_worth_57 : decode cX4_worth 57 = .ok (.iload_n 3, 1) := by decide +kernel
theorem dX4_worth_58 : decode cX4_worth 58 = .ok (.ireturn, 1) := by decide +kernel
set_option maxRecDepth 20000 in
theorem ggX4_offer_X4_offerError : GoodIn wsX4_offer wsX4_offerError := goodIn_r _ [7, 2, 8, 9, 6, 10, 11, 12, 13, 14, 15, 16, 17, 18, 19, 111, 112, 113, 114, 115, 116, 117, 118, 119, 120, 121, 122, 123, 124, 125, 126, 127, 128, 129, 130, 131] (by decide +kernel) (by decide +kernel)
set_option maxRecDepth 20000 in
theorem gX4_offer_X4_offerError : GoodIn wsX4_offer (wsV RX4 81 RX4 yX4_offerError wsX4_offerError) := goodIn_app (goodIn_of _ (by decide +kernel)) ggX4_offer_X4_offerError
set_option maxRecDepth 20000 in
theorem ggX4_offer_X0_keep : GoodIn wsX4_offer wsX0_keep := goodIn_r _ [24, 25, 26, 27, 28, 29, 30, 31, 32, 33, 34, 17, 35, 36, 19, 37, 38, 39, 40, 41, 42, 43, 44, 45, 46, 47, 48, 49, 50, 6, 51, 52, 53, 54, 55, 56, 132, 133, 134, 117, 118, 119, 120, 121, 122, 123, 124, 125, 126, 127, 128, 129, 130, 131] (by decide +kernel) (by decide +kernel)
set_option maxRecDepth 20000 in
theorem gX4_offer_X0_keep : GoodIn wsX4_offer (wsV RX4 59 RX0 yX0_keep wsX0_keep) := goodIn_app (goodIn_of _ (by decide +kernel)) ggX4_offer_X0_keep
set_option maxRecDepth 20000 in
theorem ggX4_offer_X3_takeOffer : GoodIn wsX4_offer wsX3_takeOffer := goodIn_r _ [60, 46, 37, 61, 62, 63, 17, 64, 36, 41, 65, 66, 67, 68, 40, 69, 70, 71, 72, 38, 47, 73, 74, 75, 76, 77, 78, 30, 79, 80, 81, 82, 83, 84, 6, 85, 86, 87, 88, 89, 90, 91, 92, 93, 94, 95, 96, 97, 39, 44, 98, 99, 100, 101, 102, 103, 104, 105, 106, 29, 31, 107, 108, 109, 110, 42, 45, 48, 117, 118, 119, 120, 121, 122, 123, 124, 125, 126, 127, 128, 129, 130, 131] (by decide +kernel) (by decide +kernel)
set_option maxRecDepth 20000 in
theorem gX4_offer_X3_takeOffer : GoodIn wsX4_offer (wsV RX4 85 RX3 yX3_takeOffer wsX3_takeOffer) := goodIn_app (goodIn_of _ (by decide +kernel)) ggX4_offer_X3_takeOffer
theorem dX4_offer_0 : decode cX4_offer 0 = .ok (.aload_n 0, 1) := by decide +kernel
theorem dX4_offer_1 : decode cX4_offer 1 = .ok (.iload_n 1, 1) := by decide +kernel
theorem dX4_offer_2 : decode cX4_offer 2 = .ok (.iload_n 2, 1) := by decide +kernel
theorem dX4_offer_3 : decode cX4_offer 3 = .ok (.iload_n 3, 1) := by decide +kernel
theorem dX4_offer_4 : decode cX4_offer 4 = .ok (.iload 4, 2) := by decide +kernel
theorem dX4_offer_6 : decode cX4_offer 6 = .ok (.invokevirtual 81, 3) := by decide +kernel
theorem dX4_offer_9 : decode cX4_offer 9 = .ok (.istore 5, 2) := by decide +kernel
theorem dX4_offer_11 : decode cX4_offer 11 = .ok (.iload 5, 2) := by decide +kernel
theorem dX4_offer_13 : decode cX4_offer 13 = .ok (.ifCond .eq 6, 3) := by decide +kernel
theorem dX4_offer_16 : decode cX4_offer 16 = .ok (.iload 5, 2) := by decide +kernel
theorem dX4_offer_18 : decode cX4_offer 18 = .ok (.ireturn, 1) := by decide +kernel
theorem dX4_offer_19 : decode cX4_offer 19 = .ok (.aload_n 0, 1) := by decide +kernel
theorem dX4_offer_20 : decode cX4_offer 20 = .ok (.getfield 19, 3) := by decide +kernel
theorem dX4_offer_23 : decode cX4_offer 23 = .ok (.aload_n 0, 1) := by decide +kernel
theorem dX4_offer_24 : decode cX4_offer 24 = .ok (.getfield 10, 3) := by decide +kernel
theorem dX4_offer_27 : decode cX4_offer 27 = .ok (.invokevirtual 59, 3) := by decide +kernel
theorem dX4_offer_30 : decode cX4_offer 30 = .ok (.aload_n 0, 1) := by decide +kernel
theorem dX4_offer_31 : decode cX4_offer 31 = .ok (.getfield 10, 3) := by decide +kernel
theorem dX4_offer_34 : decode cX4_offer 34 = .ok (.iload_n 1, 1) := by decide +kernel
theorem dX4_offer_35 : decode cX4_offer 35 = .ok (.iload_n 2, 1) := by decide +kernel
theorem dX4_offer_36 : decode cX4_offer 36 = .ok (.iload_n 3, 1) := by decide +kernel
theorem dX4_offer_37 : decode cX4_offer 37 = .ok (.iload 4, 2) := by decide +kernel
theorem dX4_offer_39 : decode cX4_offer 39 = .ok (.invokevirtual 85, 3) := by decide +kernel
theorem dX4_offer_42 : decode cX4_offer 42 = .ok (.ireturn, 1) := by decide +kernel
set_option maxRecDepth 20000 in
theorem ggX4_pay_X4_isPupil : GoodIn wsX4_pay wsX4_isPupil := goodIn_r _ [8, 9, 10, 7, 11] (by decide +kernel) (by decide +kernel)
set_option maxRecDepth 20000 in
theorem gX4_pay_X4_isPupil : GoodIn wsX4_pay (va_wsS RX4 88 yX4_isPupil wsX4_isPupil) := goodIn_app (goodIn_of _ (by decide +kernel)) ggX4_pay_X4_isPupil
set_option maxRecDepth 20000 in
theorem ggX4_pay_X4_isWithin : GoodIn wsX4_pay wsX4_isWithin := goodIn_r _ [11] (by decide +kernel) (by decide +kernel)
set_option maxRecDepth 20000 in
theorem gX4_pay_X4_isWithin : GoodIn wsX4_pay (va_wsS RX4 49 yX4_isWithin wsX4_isWithin) := goodIn_app (goodIn_of _ (by decide +kernel)) ggX4_pay_X4_isWithin
set_option maxRecDepth 20000 in
theorem ggX4_pay_X0_keep : GoodIn wsX4_pay wsX0_keep := goodIn_r _ [16, 17, 18, 19, 20, 21, 22, 23, 24, 25, 26, 27, 28, 29, 30, 31, 32, 33, 34, 35, 36, 37, 38, 39, 40, 41, 42, 43, 44, 7, 45, 46, 47, 48, 49, 50, 72, 73, 74, 57, 58, 59, 60, 61, 62, 63, 64, 65, 66, 67, 68, 69, 70, 71] (by decide +kernel) (by decide +kernel)
set_option maxRecDepth 20000 in
theorem gX4_pay_X0_keep : GoodIn wsX4_pay (wsV RX4 59 RX0 yX0_keep wsX0_keep) := goodIn_app (goodIn_of _ (by decide +kernel)) ggX4_pay_X0_keep
theorem dX4_pay_0 : decode cX4_pay 0 = .ok (.iload_n 1, 1) := by decide +kernel
theorem dX4_pay_1 : decode cX4_pay 1 = .ok (.invokestatic 88, 3) := by decide +kernel
theorem dX4_pay_4 : decode cX4_pay 4 = .ok (.ifCond .ne 5, 3) := by decide +kernel
theorem dX4_pay_7 : decode cX4_pay 7 = .ok (.iconst (-1), 1) := by decide +kernel
theorem dX4_pay_8 : decode cX4_pay 8 = .ok (.ireturn, 1) := by decide +kernel
theorem dX4_pay_9 : decode cX4_pay 9 = .ok (.iload_n 2, 1) := by decide +kernel
theorem dX4_pay_10 : decode cX4_pay 10 = .ok (.iconst 1, 1) := by decide +kernel
theorem dX4_pay_11 : decode cX4_pay 11 = .ok (.sipush 9999, 3) := by decide +kernel
theorem dX4_pay_14 : decode cX4_pay 14 = .ok (.invokestatic 49, 3) := by decide +kernel
theorem dX4_pay_17 : decode cX4_pay 17 = .ok (.ifCond .ne 6, 3) := by decide +kernel
theorem dX4_pay_20 : decode cX4_pay 20 = .ok (.bipush (-2), 2) := by decide +kernel
theorem dX4_pay_22 : decode cX4_pay 22 = .ok (.ireturn, 1) := by decide +kernel
theorem dX4_pay_23 : decode cX4_pay 23 = .ok (.aload_n 0, 1) := by decide +kernel
theorem dX4_pay_24 : decode cX4_pay 24 = .ok (.getfield 10, 3) := by decide +kernel
theorem dX4_pay_27 : decode cX4_pay 27 = .ok (.getfield 91, 3) := by decide +kernel
theorem dX4_pay_30 : decode cX4_pay 30 = .ok (.iload_n 1, 1) := by decide +kernel
theorem dX4_pay_31 : decode cX4_pay 31 = .ok (.iaload, 1) := by decide +kernel
theorem dX4_pay_32 : decode cX4_pay 32 = .ok (.iload_n 2, 1) := by decide +kernel
theorem dX4_pay_33 : decode cX4_pay 33 = .ok (.if_icmp .ge 6, 3) := by decide +kernel
theorem dX4_pay_36 : decode cX4_pay 36 = .ok (.bipush (-5), 2) := by decide +kernel
theorem dX4_pay_38 : decode cX4_pay 38 = .ok (.ireturn, 1) := by decide +kernel
theorem dX4_pay_39 : decode cX4_pay 39 = .ok (.aload_n 0, 1) := by decide +kernel
theorem dX4_pay_40 : decode cX4_pay 40 = .ok (.getfield 19, 3) := by decide +kernel
theorem dX4_pay_43 : decode cX4_pay 43 = .ok (.aload_n 0, 1) := by decide +kernel
theorem dX4_pay_44 : decode cX4_pay 44 = .ok (.getfield 10, 3) := by decide +kernel
theorem dX4_pay_47 : decode cX4_pay 47 = .ok (.invokevirtual 59, 3) := by decide +kernel
theorem dX4_pay_50 : decode cX4_pay 50 = .ok (.aload_n 0, 1) := by decide +kernel
theorem dX4_pay_51 : decode cX4_pay 51 = .ok (.getfield 10, 3) := by decide +kernel
theorem dX4_pay_54 : decode cX4_pay 54 = .ok (.getfield 91, 3) := by decide +kernel
theorem dX4_pay_57 : decode cX4_pay 57 = .ok (.iload_n 1, 1) := by decide +kernel
theorem dX4_pay_58 : decode cX4_pay 58 = .ok (.dup2, 1) := by decide +kernel
theorem dX4_pay_59 : decode cX4_pay 59 = .ok (.iaload, 1) := by decide +kernel
theorem dX4_pay_60 : decode cX4_pay 60 = .ok (.iload_n 2, 1) := by decide +kernel
theorem dX4_pay_61 : decode cX4_pay 61 = .ok (.isub, 1) := by decide +kernel
theorem dX4_pay_62 : decode cX4_pay 62 = .ok (.iastore, 1) := by decide +kernel
theorem dX4_pay_63 : decode cX4_pay 63 = .ok (.aload_n 0, 1) := by decide +kernel
theorem dX4_pay_64 : decode cX4_pay 64 = .ok (.getfield 10, 3) := by decide +kernel
theorem dX4_pay_67 : decode cX4_pay 67 = .ok (.getfield 94, 3) := by decide +kernel
theorem dX4_pay_70 : decode cX4_pay 70 = .ok (.iload_n 1, 1) := by decide +kernel
theorem dX4_pay_71 : decode cX4_pay 71 = .ok (.dup2, 1) := by decide +kernel
theorem dX4_pay_72 : decode cX4_pay 72 = .ok (.iaload, 1) := by decide +kernel
theorem dX4_pay_73 : decode cX4_pay 73 = .ok (.iload_n 2, 1) := by decide +kernel
theorem dX4_pay_74 : decode cX4_pay 74 = .ok (.iadd, 1) := by decide +kernel
theorem dX4_pay_75 : decode cX4_pay 75 = .ok (.iastore, 1) := by decide +kernel
theorem dX4_pay_76 : decode cX4_pay 76 = .ok (.aload_n 0, 1) := by decide +kernel
theorem dX4_pay_77 : decode cX4_pay 77 = .ok (.getfield 10, 3) := by decide +kernel
theorem dX4_pay_80 : decode cX4_pay 80 = .ok (.getfield 91, 3) := by decide +kernel
theorem dX4_pay_83 : decode cX4_pay 83 = .ok (.iload_n 1, 1) := by decide +kernel
theorem dX4_pay_84 : decode cX4_pay 84 = .ok (.iaload, 1) := by decide +kernel
theorem dX4_pay_85 : decode cX4_pay 85 = .ok (.ireturn, 1) := by decide +kernel
set_option maxRecDepth 20000 in
theorem ggX4_endTerm_X0_keep : GoodIn wsX4_endTerm wsX0_keep := goodIn_r _ [8, 9, 10, 11, 12, 13, 14, 15, 16, 17, 18, 19, 20, 21, 22, 23, 24, 25, 26, 27, 28, 29, 30, 31, 32, 33, 34, 35, 36, 37, 38, 39, 40, 41, 42, 43, 73, 74, 75, 58, 59, 60, 61, 62, 63, 64, 65, 66, 67, 68, 69, 70, 71, 72] (by decide +kernel) (by decide +kernel)
set_option maxRecDepth 20000 in
theorem gX4_endTerm_X0_keep : GoodIn wsX4_endTerm (wsV RX4 59 RX0 yX0_keep wsX0_keep) := goodIn_app (goodIn_of _ (by decide +kernel)) ggX4_endTerm_X0_keep
set_option maxRecDepth 20000 in
theorem ggX4_endTerm_X4_sum : GoodIn wsX4_endTerm wsX4_sum := goodIn_r _ [46] (by decide +kernel) (by decide +kernel)
set_option maxRecDepth 20000 in
theorem gX4_endTerm_X4_sum : GoodIn wsX4_endTerm (va_wsS RX4 100 yX4_sum wsX4_sum) := goodIn_app (goodIn_of _ (by decide +kernel)) ggX4_endTerm_X4_sum
set_option maxRecDepth 20000 in
theorem ggX4_endTerm_X3_beginNextTerm : GoodIn wsX4_endTerm wsX3_beginNextTerm := goodIn_r _ [50, 26, 32, 27, 51, 13, 14, 15, 33, 35, 58, 59, 60, 61, 62, 63, 64, 65, 66, 67, 68, 69, 70, 71, 72] (by decide +kernel) (by decide +kernel)
set_option maxRecDepth 20000 in
theorem gX4_endTerm_X3_beginNextTerm : GoodIn wsX4_endTerm (wsV RX4 104 RX3 yX3_beginNextTerm wsX3_beginNextTerm) := goodIn_app (goodIn_of _ (by decide +kernel)) ggX4_endTerm_X3_beginNextTerm
theorem dX4_endTerm_0 : decode cX4_endTerm 0 = .ok (.aload_n 0, 1) := by decide +kernel
theorem dX4_endTerm_1 : decode cX4_endTerm 1 = .ok (.getfield 19, 3) := by decide +kernel
theorem dX4_endTerm_4 : decode cX4_endTerm 4 = .ok (.aload_n 0, 1) := by decide +kernel
theorem dX4_endTerm_5 : decode cX4_endTerm 5 = .ok (.getfield 10, 3) := by decide +kernel
theorem dX4_endTerm_8 : decode cX4_endTerm 8 = .ok (.invokevirtual 59, 3) := by decide +kernel
theorem dX4_endTerm_11 : decode cX4_endTerm 11 = .ok (.aload_n 0, 1) := by decide +kernel
theorem dX4_endTerm_12 : decode cX4_endTerm 12 = .ok (.getfield 10, 3) := by decide +kernel
theorem dX4_endTerm_15 : decode cX4_endTerm 15 = .ok (.getfield 97, 3) := by decide +kernel
theorem dX4_endTerm_18 : decode cX4_endTerm 18 = .ok (.invokestatic 100, 3) := by decide +kernel
theorem dX4_endTerm_21 : decode cX4_endTerm 21 = .ok (.istore_n 1, 1) := by decide +kernel
theorem dX4_endTerm_22 : decode cX4_endTerm 22 = .ok (.aload_n 0, 1) := by decide +kernel
theorem dX4_endTerm_23 : decode cX4_endTerm 23 = .ok (.getfield 10, 3) := by decide +kernel
theorem dX4_endTerm_26 : decode cX4_endTerm 26 = .ok (.invokevirtual 104, 3) := by decide +kernel
theorem dX4_endTerm_29 : decode cX4_endTerm 29 = .ok (.iload_n 1, 1) := by decide +kernel
theorem dX4_endTerm_30 : decode cX4_endTerm 30 = .ok (.ireturn, 1) := by decide +kernel
set_option maxRecDepth 20000 in
theorem ggX4_read_X4_fault : GoodIn wsX4_read wsX4_fault := goodIn_r _ [11, 3, 4, 5, 6, 12, 13, 14, 15, 16, 17, 18, 19, 20, 21, 22, 23, 24, 25, 26, 27, 28, 29, 30, 31, 32, 10, 33, 34, 35, 36, 37, 38, 39, 40, 41, 42, 43, 44, 45, 46, 47, 48, 49, 50, 51, 52, 53, 54, 55, 56, 57, 58, 59, 60, 61, 62, 168, 169, 170, 171, 172, 173, 174, 175, 176, 177, 178, 179, 180] (by decide +kernel) (by decide +kernel)
set_option maxRecDepth 20000 in
theorem gX4_read_X4_fault : GoodIn wsX4_read (wsV RX4 107 RX4 yX4_fault wsX4_fault) := goodIn_app (goodIn_of _ (by decide +kernel)) ggX4_read_X4_fault
set_option maxRecDepth 20000 in
theorem ggX4_read_X0_keep : GoodIn wsX4_read wsX0_keep := goodIn_r _ [67, 68, 69, 70, 71, 72, 73, 74, 75, 76, 77, 78, 79, 80, 81, 82, 83, 84, 85, 86, 87, 88, 89, 90, 91, 92, 93, 94, 95, 10, 96, 97, 98, 99, 100, 101, 181, 182, 183, 184, 185, 186, 187, 188, 189, 190, 191, 192, 193, 194, 195, 196, 197, 198] (by decide +kernel) (by decide +kernel)
set_option maxRecDepth 20000 in
theorem gX4_read_X0_keep : GoodIn wsX4_read (wsV RX4 59 RX0 yX0_keep wsX0_keep) := goodIn_app (goodIn_of _ (by decide +kernel)) ggX4_read_X0_keep
set_option maxRecDepth 20000 in
theorem ggX4_read_X2_begin : GoodIn wsX4_read wsX2_begin := goodIn_r _ [16, 17, 18, 176, 177, 178, 179, 180] (by decide +kernel) (by decide +kernel)
set_option maxRecDepth 20000 in
theorem gX4_read_X2_begin : GoodIn wsX4_read (wsV RX4 111 RX2 yX2_begin wsX2_begin) := goodIn_app (goodIn_of _ (by decide +kernel)) ggX4_read_X2_begin
set_option maxRecDepth 20000 in
theorem ggX4_read_X4_stampsForWhatWasRead : GoodIn wsX4_read wsX4_stampsForWhatWasRead := goodIn_r _ [105, 2, 3, 106, 107, 108, 109, 110, 111, 112, 78, 113, 81, 114, 115, 116, 117, 91, 82, 118, 119, 120, 121, 80, 86, 122, 123, 124, 125, 85, 126, 127, 128, 129, 83, 92, 130, 131, 132, 133, 134, 135, 73, 136, 137, 138, 139, 140, 141, 10, 142, 143, 144, 145, 146, 147, 148, 149, 150, 151, 152, 153, 154, 84, 89, 155, 156, 157, 158, 159, 160, 161, 162, 163, 72, 74, 164, 165, 166, 167, 87, 90, 93, 168, 169, 170, 171, 172, 173, 176, 177, 178, 179, 180, 184, 185, 186, 187, 188, 189, 190, 191, 192, 193, 194, 195, 196, 197, 198] (by decide +kernel) (by decide +kernel)
set_option maxRecDepth 20000 in
theorem gX4_read_X4_stampsForWhatWasRead : GoodIn wsX4_read (wsV RX4 121 RX4 yX4_stampsForWhatWasRead wsX4_stampsForWhatWasRead) := goodIn_app (goodIn_of _ (by decide +kernel)) ggX4_read_X4_stampsForWhatWasRead
set_option maxRecDepth 20000 in
theorem ggX4_read_X2_takes : GoodIn wsX4_read wsX2_takes := goodIn_r _ [22, 17, 23, 24, 25, 26, 15, 27, 28, 29, 30, 31, 32, 10, 33, 34, 35, 36, 37, 38, 39, 40, 41, 42, 43, 44, 45, 46, 47, 48, 49, 50, 51, 52, 53, 54, 18, 55, 56, 57, 58, 176, 177, 178, 179, 180] (by decide +kernel) (by decide +kernel)
set_option maxRecDepth 20000 in
theorem gX4_read_X2_takes : GoodIn wsX4_read (wsV RX4 124 RX2 yX2_takes wsX2_takes) := goodIn_app (goodIn_of _ (by decide +kernel)) ggX4_read_X2_takes
theorem dX4_read_0 : decode cX4_read 0 = .ok (.aload_n 0, 1) := by decide +kernel
theorem dX4_read_1 : decode cX4_read 1 = .ok (.invokevirtual 107, 3) := by decide +kernel
theorem dX4_read_4 : decode cX4_read 4 = .ok (.bipush (-6), 2) := by decide +kernel
theorem dX4_read_6 : decode cX4_read 6 = .ok (.if_icmp .eq 6, 3) := by decide +kernel
theorem dX4_read_9 : decode cX4_read 9 = .ok (.bipush (-3), 2) := by decide +kernel
theorem dX4_read_11 : decode cX4_read 11 = .ok (.ireturn, 1) := by decide +kernel
theorem dX4_read_12 : decode cX4_read 12 = .ok (.aload_n 0, 1) := by decide +kernel
theorem dX4_read_13 : decode cX4_read 13 = .ok (.getfield 19, 3) := by decide +kernel
theorem dX4_read_16 : decode cX4_read 16 = .ok (.aload_n 0, 1) := by decide +kernel
theorem dX4_read_17 : decode cX4_read 17 = .ok (.getfield 10, 3) := by decide +kernel
theorem dX4_read_20 : decode cX4_read 20 = .ok (.invokevirtual 59, 3) := by decide +kernel
theorem dX4_read_23 : decode cX4_read 23 = .ok (.iconst 0, 1) := by decide +kernel
theorem dX4_read_24 : decode cX4_read 24 = .ok (.istore_n 1, 1) := by decide +kernel
theorem dX4_read_25 : decode cX4_read 25 = .ok (.aload_n 0, 1) := by decide +kernel
theorem dX4_read_26 : decode cX4_read 26 = .ok (.getfield 41, 3) := by decide +kernel
theorem dX4_read_29 : decode cX4_read 29 = .ok (.invokevirtual 111, 3) := by decide +kernel
theorem dX4_read_32 : decode cX4_read 32 = .ok (.iconst 0, 1) := by decide +kernel
theorem dX4_read_33 : decode cX4_read 33 = .ok (.istore_n 2, 1) := by decide +kernel
theorem dX4_read_34 : decode cX4_read 34 = .ok (.iload_n 2, 1) := by decide +kernel
theorem dX4_read_35 : decode cX4_read 35 = .ok (.aload_n 0, 1) := by decide +kernel
theorem dX4_read_36 : decode cX4_read 36 = .ok (.getfield 34, 3) := by decide +kernel
theorem dX4_read_39 : decode cX4_read 39 = .ok (.getfield 114, 3) := by decide +kernel
theorem dX4_read_42 : decode cX4_read 42 = .ok (.if_icmp .ge 47, 3) := by decide +kernel
theorem dX4_read_45 : decode cX4_read 45 = .ok (.aload_n 0, 1) := by decide +kernel
theorem dX4_read_46 : decode cX4_read 46 = .ok (.getfield 34, 3) := by decide +kernel
theorem dX4_read_49 : decode cX4_read 49 = .ok (.getfield 117, 3) := by decide +kernel
theorem dX4_read_52 : decode cX4_read 52 = .ok (.iload_n 2, 1) := by decide +kernel
theorem dX4_read_53 : decode cX4_read 53 = .ok (.caload, 1) := by decide +kernel
theorem dX4_read_54 : decode cX4_read 54 = .ok (.bipush 44, 2) := by decide +kernel
theorem dX4_read_56 : decode cX4_read 56 = .ok (.if_icmp .ne 10, 3) := by decide +kernel
theorem dX4_read_59 : decode cX4_read 59 = .ok (.iload_n 1, 1) := by decide +kernel
theorem dX4_read_60 : decode cX4_read 60 = .ok (.aload_n 0, 1) := by decide +kernel
theorem dX4_read_61 : decode cX4_read 61 = .ok (.invokevirtual 121, 3) := by decide +kernel
theorem dX4_read_64 : decode cX4_read 64 = .ok (.iadd, 1) := by decide +kernel
theorem dX4_read_65 : decode cX4_read 65 = .ok (.istore_n 1, 1) := by decide +kernel
theorem dX4_read_66 : decode cX4_read 66 = .ok (.aload_n 0, 1) := by decide +kernel
theorem dX4_read_67 : decode cX4_read 67 = .ok (.getfield 41, 3) := by decide +kernel
theorem dX4_read_70 : decode cX4_read 70 = .ok (.aload_n 0, 1) := by decide +kernel
theorem dX4_read_71 : decode cX4_read 71 = .ok (.getfield 34, 3) := by decide +kernel
theorem dX4_read_74 : decode cX4_read 74 = .ok (.getfield 117, 3) := by decide +kernel
theorem dX4_read_77 : decode cX4_read 77 = .ok (.iload_n 2, 1) := by decide +kernel
theorem dX4_read_78 : decode cX4_read 78 = .ok (.caload, 1) := by decide +kernel
theorem dX4_read_79 : decode cX4_read 79 = .ok (.invokevirtual 124, 3) := by decide +kernel
theorem dX4_read_82 : decode cX4_read 82 = .ok (.pop, 1) := by decide +kernel
theorem dX4_read_83 : decode cX4_read 83 = .ok (.iinc 2 1, 3) := by decide +kernel
theorem dX4_read_86 : decode cX4_read 86 = .ok (.goto (-52), 3) := by decide +kernel
theorem dX4_read_89 : decode cX4_read 89 = .ok (.iload_n 1, 1) := by decide +kernel
theorem dX4_read_90 : decode cX4_read 90 = .ok (.aload_n 0, 1) := by decide +kernel
theorem dX4_read_91 : decode cX4_read 91 = .ok (.invokevirtual 121, 3) := by decide +kernel
theorem dX4_read_94 : decode cX4_read 94 = .ok (.iadd, 1) := by decide +kernel
theorem dX4_read_95 : decode cX4_read 95 = .ok (.istore_n 1, 1) := by decide +kernel
theorem dX4_read_96 : decode cX4_read 96 = .ok (.aload_n 0, 1) := by decide +kernel
theorem dX4_read_97 : decode cX4_read 97 = .ok (.getfield 34, 3) := by decide +kernel
theorem dX4_read_100 : decode cX4_read 100 = .ok (.iconst 0, 1) := by decide +kernel
theorem dX4_read_101 : decode cX4_read 101 = .ok (.putfield 114, 3) := by decide +kernel
theorem dX4_read_104 : decode cX4_read 104 = .ok (.iload_n 1, 1) := by decide +kernel
theorem dX4_read_105 : decode cX4_read 105 = .ok (.ireturn, 1) := by decide +kernel
set_option maxRecDepth 20000 in
theorem ggX4_excuse_X3_hasExcuse : GoodIn wsX4_excuse wsX3_hasExcuse := goodIn_r _ [9, 10, 30, 31, 32, 33, 34, 35, 36, 37, 38, 39, 40, 41, 42, 43, 44] (by decide +kernel) (by decide +kernel)
set_option maxRecDepth 20000 in
theorem gX4_excuse_X3_hasExcuse : GoodIn wsX4_excuse (wsV RX4 74 RX3 yX3_hasExcuse wsX3_hasExcuse) := goodIn_app (goodIn_of _ (by decide +kernel)) ggX4_excuse_X3_hasExcuse
set_option maxRecDepth 20000 in
theorem ggX4_excuse_X3_usesBySchool : GoodIn wsX4_excuse wsX3_usesBySchool := goodIn_r _ [14, 15, 30, 31, 32, 33, 34, 35, 36, 37, 38, 39, 40, 41, 42, 43, 44] (by decide +kernel) (by decide +kernel)
set_option maxRecDepth 20000 in
theorem gX4_excuse_X3_usesBySchool : GoodIn wsX4_excuse (wsV RX4 131 RX3 yX3_usesBySchool wsX3_usesBySchool) := goodIn_app (goodIn_of _ (by decide +kernel)) ggX4_excuse_X3_usesBySchool
set_option maxRecDepth 20000 in
theorem ggX4_excuse_X3_usersOf : GoodIn wsX4_excuse wsX3_usersOf := goodIn_r _ [19, 20, 21, 22, 8, 23, 15, 30, 31, 32, 33, 34, 35, 36, 37, 38, 39, 40, 41, 42, 43, 44] (by decide +kernel) (by decide +kernel)
set_option maxRecDepth 20000 in
theorem gX4_excuse_X3_usersOf : GoodIn wsX4_excuse (wsV RX4 138 RX3 yX3_usersOf wsX3_usersOf) := goodIn_app (goodIn_of _ (by decide +kernel)) ggX4_excuse_X3_usersOf
theorem dX4_excuse_0 : decode cX4_excuse 0 = .ok (.aload_n 0, 1) := by decide +kernel
theorem dX4_excuse_1 : decode cX4_excuse 1 = .ok (.getfield 10, 3) := by decide +kernel
theorem dX4_excuse_4 : decode cX4_excuse 4 = .ok (.iload_n 1, 1) := by decide +kernel
theorem dX4_excuse_5 : decode cX4_excuse 5 = .ok (.invokevirtual 74, 3) := by decide +kernel
theorem dX4_excuse_8 : decode cX4_excuse 8 = .ok (.ifCond .ne 5, 3) := by decide +kernel
theorem dX4_excuse_11 : decode cX4_excuse 11 = .ok (.iconst (-1), 1) := by decide +kernel
theorem dX4_excuse_12 : decode cX4_excuse 12 = .ok (.ireturn, 1) := by decide +kernel
theorem dX4_excuse_13 : decode cX4_excuse 13 = .ok (.iload_n 2, 1) := by decide +kernel
theorem dX4_excuse_14 : decode cX4_excuse 14 = .ok (.tableswitch 82 0 4 #[34, 44, 54, 63, 73], 34) := by decide +kernel
theorem dX4_excuse_48 : decode cX4_excuse 48 = .ok (.aload_n 0, 1) := by decide +kernel
theorem dX4_excuse_49 : decode cX4_excuse 49 = .ok (.getfield 10, 3) := by decide +kernel
theorem dX4_excuse_52 : decode cX4_excuse 52 = .ok (.getfield 128, 3) := by decide +kernel
theorem dX4_excuse_55 : decode cX4_excuse 55 = .ok (.iload_n 1, 1) := by decide +kernel
theorem dX4_excuse_56 : decode cX4_excuse 56 = .ok (.iaload, 1) := by decide +kernel
theorem dX4_excuse_57 : decode cX4_excuse 57 = .ok (.ireturn, 1) := by decide +kernel
theorem dX4_excuse_58 : decode cX4_excuse 58 = .ok (.aload_n 0, 1) := by decide +kernel
theorem dX4_excuse_59 : decode cX4_excuse 59 = .ok (.getfield 10, 3) := by decide +kernel
theorem dX4_excuse_62 : decode cX4_excuse 62 = .ok (.getfield 78, 3) := by decide +kernel
theorem dX4_excuse_65 : decode cX4_excuse 65 = .ok (.iload_n 1, 1) := by decide +kernel
theorem dX4_excuse_66 : decode cX4_excuse 66 = .ok (.iaload, 1) := by decide +kernel
theorem dX4_excuse_67 : decode cX4_excuse 67 = .ok (.ireturn, 1) := by decide +kernel
theorem dX4_excuse_68 : decode cX4_excuse 68 = .ok (.aload_n 0, 1) := by decide +kernel
theorem dX4_excuse_69 : decode cX4_excuse 69 = .ok (.getfield 10, 3) := by decide +kernel
theorem dX4_excuse_72 : decode cX4_excuse 72 = .ok (.iload_n 1, 1) := by decide +kernel
theorem dX4_excuse_73 : decode cX4_excuse 73 = .ok (.invokevirtual 131, 3) := by decide +kernel
theorem dX4_excuse_76 : decode cX4_excuse 76 = .ok (.ireturn, 1) := by decide +kernel
theorem dX4_excuse_77 : decode cX4_excuse 77 = .ok (.aload_n 0, 1) := by decide +kernel
theorem dX4_excuse_78 : decode cX4_excuse 78 = .ok (.getfield 10, 3) := by decide +kernel
theorem dX4_excuse_81 : decode cX4_excuse 81 = .ok (.getfield 135, 3) := by decide +kernel
theorem dX4_excuse_84 : decode cX4_excuse 84 = .ok (.iload_n 1, 1) := by decide +kernel
theorem dX4_excuse_85 : decode cX4_excuse 85 = .ok (.iaload, 1) := by decide +kernel
theorem dX4_excuse_86 : decode cX4_excuse 86 = .ok (.ireturn, 1) := by decide +kernel
theorem dX4_excuse_87 : decode cX4_excuse 87 = .ok (.aload_n 0, 1) := by decide +kernel
theorem dX4_excuse_88 : decode cX4_excuse 88 = .ok (.getfield 10, 3) := by decide +kernel
theorem dX4_excuse_91 : decode cX4_excuse 91 = .ok (.iload_n 1, 1) := by decide +kernel
theorem dX4_excuse_92 : decode cX4_excuse 92 = .ok (.invokevirtual 138, 3) := by decide +kernel
theorem dX4_excuse_95 : decode cX4_excuse 95 = .ok (.ireturn, 1) := by decide +kernel
theorem dX4_excuse_96 : decode cX4_excuse 96 = .ok (.bipush (-2), 2) := by decide +kernel
theorem dX4_excuse_98 : decode cX4_excuse 98 = .ok (.ireturn, 1) := by decide +kernel
set_option maxRecDepth 20000 in
theorem ggX4_pupil_X4_isPupil : GoodIn wsX4_pupil wsX4_isPupil := goodIn_r _ [12, 13, 14, 11, 15] (by decide +kernel) (by decide +kernel)
set_option maxRecDepth 20000 in
theorem gX4_pupil_X4_isPupil : GoodIn wsX4_pupil (va_wsS RX4 88 yX4_isPupil wsX4_isPupil) := goodIn_app (goodIn_of _ (by decide +kernel)) ggX4_pupil_X4_isPupil
set_option maxRecDepth 20000 in
theorem ggX4_pupil_X3_usesByPupil : GoodIn wsX4_pupil wsX3_usesByPupil := goodIn_r _ [20, 21, 22, 23, 19, 24, 25, 35, 36, 37, 38, 39, 40, 41, 42, 43, 44, 45, 46, 47, 48, 49] (by decide +kernel) (by decide +kernel)
set_option maxRecDepth 20000 in
theorem gX4_pupil_X3_usesByPupil : GoodIn wsX4_pupil (wsV RX4 153 RX3 yX3_usesByPupil wsX3_usesByPupil) := goodIn_app (goodIn_of _ (by decide +kernel)) ggX4_pupil_X3_usesByPupil
set_option maxRecDepth 20000 in
theorem ggX4_pupil_X4_classOf : GoodIn wsX4_pupil wsX4_classOf := goodIn_r _ [28] (by decide +kernel) (by decide +kernel)
set_option maxRecDepth 20000 in
theorem gX4_pupil_X4_classOf : GoodIn wsX4_pupil (va_wsS RX4 159 yX4_classOf wsX4_classOf) := goodIn_app (goodIn_of _ (by decide +kernel)) ggX4_pupil_X4_classOf
theorem dX4_pupil_0 : decode cX4_pupil 0 = .ok (.iload_n 1, 1) := by decide +kernel
theorem dX4_pupil_1 : decode cX4_pupil 1 = .ok (.invokestatic 88, 3) := by decide +kernel
theorem dX4_pupil_4 : decode cX4_pupil 4 = .ok (.ifCond .ne 5, 3) := by decide +kernel
theorem dX4_pupil_7 : decode cX4_pupil 7 = .ok (.iconst (-1), 1) := by decide +kernel
theorem dX4_pupil_8 : decode cX4_pupil 8 = .ok (.ireturn, 1) := by decide +kernel
theorem dX4_pupil_9 : decode cX4_pupil 9 = .ok (.iload_n 2, 1) := by decide +kernel
theorem dX4_pupil_10 : decode cX4_pupil 10 = .ok (.tableswitch 128 0 7 #[46, 56, 66, 76, 86, 96, 105, 118], 46) := by decide +kernel
theorem dX4_pupil_56 : decode cX4_pupil 56 = .ok (.aload_n 0, 1) := by decide +kernel
theorem dX4_pupil_57 : decode cX4_pupil 57 = .ok (.getfield 10, 3) := by decide +kernel
theorem dX4_pupil_60 : decode cX4_pupil 60 = .ok (.getfield 141, 3) := by decide +kernel
theorem dX4_pupil_63 : decode cX4_pupil 63 = .ok (.iload_n 1, 1) := by decide +kernel
theorem dX4_pupil_64 : decode cX4_pupil 64 = .ok (.iaload, 1) := by decide +kernel
theorem dX4_pupil_65 : decode cX4_pupil 65 = .ok (.ireturn, 1) := by decide +kernel
theorem dX4_pupil_66 : decode cX4_pupil 66 = .ok (.aload_n 0, 1) := by decide +kernel
theorem dX4_pupil_67 : decode cX4_pupil 67 = .ok (.getfield 10, 3) := by decide +kernel
theorem dX4_pupil_70 : decode cX4_pupil 70 = .ok (.getfield 91, 3) := by decide +kernel
theorem dX4_pupil_73 : decode cX4_pupil 73 = .ok (.iload_n 1, 1) := by decide +kernel
theorem dX4_pupil_74 : decode cX4_pupil 74 = .ok (.iaload, 1) := by decide +kernel
theorem dX4_pupil_75 : decode cX4_pupil 75 = .ok (.ireturn, 1) := by decide +kernel
theorem dX4_pupil_76 : decode cX4_pupil 76 = .ok (.aload_n 0, 1) := by decide +kernel
theorem dX4_pupil_77 : decode cX4_pupil 77 = .ok (.getfield 10, 3) := by decide +kernel
theorem dX4_pupil_80 : decode cX4_pupil 80 = .ok (.getfield 144, 3) := by decide +kernel
theorem dX4_pupil_83 : decode cX4_pupil 83 = .ok (.iload_n 1, 1) := by decide +kernel
theorem dX4_pupil_84 : decode cX4_pupil 84 = .ok (.iaload, 1) := by decide +kernel
theorem dX4_pupil_85 : decode cX4_pupil 85 = .ok (.ireturn, 1) := by decide +kernel
theorem dX4_pupil_86 : decode cX4_pupil 86 = .ok (.aload_n 0, 1) := by decide +kernel
theorem dX4_pupil_87 : decode cX4_pupil 87 = .ok (.getfield 10, 3) := by decide +kernel
theorem dX4_pupil_90 : decode cX4_pupil 90 = .ok (.getfield 147, 3) := by decide +kernel
theorem dX4_pupil_93 : decode cX4_pupil 93 = .ok (.iload_n 1, 1) := by decide +kernel
theorem dX4_pupil_94 : decode cX4_pupil 94 = .ok (.iaload, 1) := by decide +kernel
theorem dX4_pupil_95 : decode cX4_pupil 95 = .ok (.ireturn, 1) := by decide +kernel
theorem dX4_pupil_96 : decode cX4_pupil 96 = .ok (.aload_n 0, 1) := by decide +kernel
theorem dX4_pupil_97 : decode cX4_pupil 97 = .ok (.getfield 10, 3) := by decide +kernel
theorem dX4_pupil_100 : decode cX4_pupil 100 = .ok (.getfield 150, 3) := by decide +kernel
theorem dX4_pupil_103 : decode cX4_pupil 103 = .ok (.iload_n 1, 1) := by decide +kernel
theorem dX4_pupil_104 : decode cX4_pupil 104 = .ok (.iaload, 1) := by decide +kernel
theorem dX4_pupil_105 : decode cX4_pupil 105 = .ok (.ireturn, 1) := by decide +kernel
theorem dX4_pupil_106 : decode cX4_pupil 106 = .ok (.aload_n 0, 1) := by decide +kernel
theorem dX4_pupil_107 : decode cX4_pupil 107 = .ok (.getfield 10, 3) := by decide +kernel
theorem dX4_pupil_110 : decode cX4_pupil 110 = .ok (.iload_n 1, 1) := by decide +kernel
theorem dX4_pupil_111 : decode cX4_pupil 111 = .ok (.invokevirtual 153, 3) := by decide +kernel
theorem dX4_pupil_114 : decode cX4_pupil 114 = .ok (.ireturn, 1) := by decide +kernel
theorem dX4_pupil_115 : decode cX4_pupil 115 = .ok (.aload_n 0, 1) := by decide +kernel
theorem dX4_pupil_116 : decode cX4_pupil 116 = .ok (.getfield 10, 3) := by decide +kernel
theorem dX4_pupil_119 : decode cX4_pupil 119 = .ok (.getfield 156, 3) := by decide +kernel
theorem dX4_pupil_122 : decode cX4_pupil 122 = .ok (.iload_n 1, 1) := by decide +kernel
theorem dX4_pupil_123 : decode cX4_pupil 123 = .ok (.invokestatic 159, 3) := by decide +kernel
theorem dX4_pupil_126 : decode cX4_pupil 126 = .ok (.iaload, 1) := by decide +kernel
theorem dX4_pupil_127 : decode cX4_pupil 127 = .ok (.ireturn, 1) := by decide +kernel
theorem dX4_pupil_128 : decode cX4_pupil 128 = .ok (.aload_n 0, 1) := by decide +kernel
theorem dX4_pupil_129 : decode cX4_pupil 129 = .ok (.getfield 10, 3) := by decide +kernel
theorem dX4_pupil_132 : decode cX4_pupil 132 = .ok (.getfield 94, 3) := by decide +kernel
theorem dX4_pupil_135 : decode cX4_pupil 135 = .ok (.iload_n 1, 1) := by decide +kernel
theorem dX4_pupil_136 : decode cX4_pupil 136 = .ok (.iaload, 1) := by decide +kernel
theorem dX4_pupil_137 : decode cX4_pupil 137 = .ok (.ireturn, 1) := by decide +kernel
theorem dX4_pupil_138 : decode cX4_pupil 138 = .ok (.bipush (-2), 2) := by decide +kernel
theorem dX4_pupil_140 : decode cX4_pupil 140 = .ok (.ireturn, 1) := by decide +kernel
set_option maxRecDepth 20000 in
theorem ggX4_novelty_X4_isPupil : GoodIn wsX4_novelty wsX4_isPupil := goodIn_r _ [5, 6, 7, 4, 8] (by decide +kernel) (by decide +kernel)
set_option maxRecDepth 20000 in
theorem gX4_novelty_X4_isPupil : GoodIn wsX4_novelty (va_wsS RX4 88 yX4_isPupil wsX4_isPupil) := goodIn_app (goodIn_of _ (by decide +kernel)) ggX4_novelty_X4_isPupil
set_option maxRecDepth 20000 in
theorem ggX4_novelty_X3_hasExcuse : GoodIn wsX4_novelty wsX3_hasExcuse := goodIn_r _ [13, 14, 41, 42, 43, 44, 45, 46, 47, 48, 49, 50, 51, 52, 53, 54, 55] (by decide +kernel) (by decide +kernel)
set_option maxRecDepth 20000 in
theorem gX4_novelty_X3_hasExcuse : GoodIn wsX4_novelty (wsV RX4 74 RX3 yX3_hasExcuse wsX3_hasExcuse) := goodIn_app (goodIn_of _ (by decide +kernel)) ggX4_novelty_X3_hasExcuse
set_option maxRecDepth 20000 in
theorem ggX4_novelty_X3_noveltyFor : GoodIn wsX4_novelty wsX3_noveltyFor := goodIn_r _ [18, 19, 20, 21, 22, 23, 24, 25, 26, 12, 27, 28, 29, 4, 30, 31, 32, 33, 34, 41, 42, 43, 44, 45, 46, 47, 48, 49, 50, 51, 52, 53, 54, 55] (by decide +kernel) (by decide +kernel)
set_option maxRecDepth 20000 in
theorem gX4_novelty_X3_noveltyFor : GoodIn wsX4_novelty (wsV RX4 162 RX3 yX3_noveltyFor wsX3_noveltyFor) := goodIn_app (goodIn_of _ (by decide +kernel)) ggX4_novelty_X3_noveltyFor
theorem dX4_novelty_0 : decode cX4_novelty 0 = .ok (.iload_n 1, 1) := by decide +kernel
theorem dX4_novelty_1 : decode cX4_novelty 1 = .ok (.invokestatic 88, 3) := by decide +kernel
theorem dX4_novelty_4 : decode cX4_novelty 4 = .ok (.ifCond .eq 14, 3) := by decide +kernel
theorem dX4_novelty_7 : decode cX4_novelty 7 = .ok (.aload_n 0, 1) := by decide +kernel
theorem dX4_novelty_8 : decode cX4_novelty 8 = .ok (.getfield 10, 3) := by decide +kernel
theorem dX4_novelty_11 : decode cX4_novelty 11 = .ok (.iload_n 2, 1) := by decide +kernel
theorem dX4_novelty_12 : decode cX4_novelty 12 = .ok (.invokevirtual 74, 3) := by decide +kernel
theorem dX4_novelty_15 : decode cX4_novelty 15 = .ok (.ifCond .ne 5, 3) := by decide +kernel
theorem dX4_novelty_18 : decode cX4_novelty 18 = .ok (.iconst (-1), 1) := by decide +kernel
theorem dX4_novelty_19 : decode cX4_novelty 19 = .ok (.ireturn, 1) := by decide +kernel
theorem dX4_novelty_20 : decode cX4_novelty 20 = .ok (.aload_n 0, 1) := by decide +kernel
theorem dX4_novelty_21 : decode cX4_novelty 21 = .ok (.getfield 10, 3) := by decide +kernel
theorem dX4_novelty_24 : decode cX4_novelty 24 = .ok (.iload_n 1, 1) := by decide +kernel
theorem dX4_novelty_25 : decode cX4_novelty 25 = .ok (.iload_n 2, 1) := by decide +kernel
theorem dX4_novelty_26 : decode cX4_novelty 26 = .ok (.invokevirtual 162, 3) := by decide +kernel
theorem dX4_novelty_29 : decode cX4_novelty 29 = .ok (.ireturn, 1) := by decide +kernel
set_option maxRecDepth 20000 in
theorem ggX4_why_X4_offerError : GoodIn wsX4_why wsX4_offerError := goodIn_r _ [6, 1, 7, 8, 5, 9, 10, 11, 12, 13, 14, 15, 16, 17, 18, 60, 61, 62, 63, 64, 65, 66, 67, 68, 69, 70, 71, 72, 73, 74, 75, 76, 77, 78, 79, 80] (by decide +kernel) (by decide +kernel)
set_option maxRecDepth 20000 in
theorem gX4_why_X4_offerError : GoodIn wsX4_why (wsV RX4 81 RX4 yX4_offerError wsX4_offerError) := goodIn_app (goodIn_of _ (by decide +kernel)) ggX4_why_X4_offerError
set_option maxRecDepth 20000 in
theorem ggX4_why_X3_reasonAgainst : GoodIn wsX4_why wsX3_reasonAgainst := goodIn_r _ [22, 23, 24, 25, 26, 27, 28, 29, 16, 30, 31, 32, 33, 34, 35, 36, 37, 38, 39, 40, 41, 42, 43, 44, 45, 46, 47, 48, 49, 50, 5, 51, 52, 53, 54, 55, 56, 57, 58, 59, 66, 67, 68, 69, 70, 71, 72, 73, 74, 75, 76, 77, 78, 79, 80] (by decide +kernel) (by decide +kernel)
set_option maxRecDepth 20000 in
theorem gX4_why_X3_reasonAgainst : GoodIn wsX4_why (wsV RX4 165 RX3 yX3_reasonAgainst wsX3_reasonAgainst) := goodIn_app (goodIn_of _ (by decide +kernel)) ggX4_why_X3_reasonAgainst
theorem dX4_why_0 : decode cX4_why 0 = .ok (.aload_n 0, 1) := by decide +kernel
theorem dX4_why_1 : decode cX4_why 1 = .ok (.iload_n 1, 1) := by decide +kernel
theorem dX4_why_2 : decode cX4_why 2 = .ok (.iload_n 2, 1) := by decide +kernel
theorem dX4_why_3 : decode cX4_why 3 = .ok (.iload_n 3, 1) := by decide +kernel
theorem dX4_why_4 : decode cX4_why 4 = .ok (.iload 4, 2) := by decide +kernel
theorem dX4_why_6 : decode cX4_why 6 = .ok (.invokevirtual 81, 3) := by decide +kernel
theorem dX4_why_9 : decode cX4_why 9 = .ok (.istore 5, 2) := by decide +kernel
theorem dX4_why_11 : decode cX4_why 11 = .ok (.iload 5, 2) := by decide +kernel
theorem dX4_why_13 : decode cX4_why 13 = .ok (.ifCond .eq 6, 3) := by decide +kernel
theorem dX4_why_16 : decode cX4_why 16 = .ok (.iload 5, 2) := by decide +kernel
theorem dX4_why_18 : decode cX4_why 18 = .ok (.ireturn, 1) := by decide +kernel
theorem dX4_why_19 : decode cX4_why 19 = .ok (.aload_n 0, 1) := by decide +kernel
theorem dX4_why_20 : decode cX4_why 20 = .ok (.getfield 10, 3) := by decide +kernel
theorem dX4_why_23 : decode cX4_why 23 = .ok (.iload_n 1, 1) := by decide +kernel
theorem dX4_why_24 : decode cX4_why 24 = .ok (.iload_n 2, 1) := by decide +kernel
theorem dX4_why_25 : decode cX4_why 25 = .ok (.iload_n 3, 1) := by decide +kernel
theorem dX4_why_26 : decode cX4_why 26 = .ok (.iload 4, 2) := by decide +kernel
theorem dX4_why_28 : decode cX4_why 28 = .ok (.invokevirtual 165, 3) := by decide +kernel
theorem dX4_why_31 : decode cX4_why 31 = .ok (.ireturn, 1) := by decide +kernel
set_option maxRecDepth 20000 in
theorem ggX4_weight_X4_offerError : GoodIn wsX4_weight wsX4_offerError := goodIn_r _ [6, 1, 7, 8, 5, 9, 10, 11, 12, 13, 14, 15, 16, 17, 18, 50, 51, 52, 53, 54, 55, 56, 57, 58, 59, 60, 61, 62, 63, 64, 65, 66, 67, 68, 69, 70] (by decide +kernel) (by decide +kernel)
set_option maxRecDepth 20000 in
theorem gX4_weight_X4_offerError : GoodIn wsX4_weight (wsV RX4 81 RX4 yX4_offerError wsX4_offerError) := goodIn_app (goodIn_of _ (by decide +kernel)) ggX4_weight_X4_offerError
set_option maxRecDepth 20000 in
theorem ggX4_weight_X3_weightOf : GoodIn wsX4_weight wsX3_weightOf := goodIn_r _ [22, 23, 24, 25, 26, 27, 28, 16, 29, 30, 31, 32, 33, 34, 35, 36, 37, 38, 39, 5, 40, 41, 42, 43, 44, 45, 46, 47, 48, 49, 56, 57, 58, 59, 60, 61, 62, 63, 64, 65, 66, 67, 68, 69, 70] (by decide +kernel) (by decide +kernel)
set_option maxRecDepth 20000 in
theorem gX4_weight_X3_weightOf : GoodIn wsX4_weight (wsV RX4 168 RX3 yX3_weightOf wsX3_weightOf) := goodIn_app (goodIn_of _ (by decide +kernel)) ggX4_weight_X3_weightOf
theorem dX4_weight_0 : decode cX4_weight 0 = .ok (.aload_n 0, 1) := by decide +kernel
theorem dX4_weight_1 : decode cX4_weight 1 = .ok (.iload_n 1, 1) := by decide +kernel
theorem dX4_weight_2 : decode cX4_weight 2 = .ok (.iload_n 2, 1) := by decide +kernel
theorem dX4_weight_3 : decode cX4_weight 3 = .ok (.iload_n 3, 1) := by decide +kernel
theorem dX4_weight_4 : decode cX4_weight 4 = .ok (.iload 4, 2) := by decide +kernel
theorem dX4_weight_6 : decode cX4_weight 6 = .ok (.invokevirtual 81, 3) := by decide +kernel
theorem dX4_weight_9 : decode cX4_weight 9 = .ok (.istore 5, 2) := by decide +kernel
theorem dX4_weight_11 : decode cX4_weight 11 = .ok (.iload 5, 2) := by decide +kernel
theorem dX4_weight_13 : decode cX4_weight 13 = .ok (.ifCond .eq 6, 3) := by decide +kernel
theorem dX4_weight_16 : decode cX4_weight 16 = .ok (.iload 5, 2) := by decide +kernel
theorem dX4_weight_18 : decode cX4_weight 18 = .ok (.ireturn, 1) := by decide +kernel
theorem dX4_weight_19 : decode cX4_weight 19 = .ok (.sipush 1000, 3) := by decide +kernel
theorem dX4_weight_22 : decode cX4_weight 22 = .ok (.aload_n 0, 1) := by decide +kernel
theorem dX4_weight_23 : decode cX4_weight 23 = .ok (.getfield 10, 3) := by decide +kernel
theorem dX4_weight_26 : decode cX4_weight 26 = .ok (.iload_n 1, 1) := by decide +kernel
theorem dX4_weight_27 : decode cX4_weight 27 = .ok (.iload_n 2, 1) := by decide +kernel
theorem dX4_weight_28 : decode cX4_weight 28 = .ok (.iload_n 3, 1) := by decide +kernel
theorem dX4_weight_29 : decode cX4_weight 29 = .ok (.iload 4, 2) := by decide +kernel
theorem dX4_weight_31 : decode cX4_weight 31 = .ok (.invokevirtual 168, 3) := by decide +kernel
theorem dX4_weight_34 : decode cX4_weight 34 = .ok (.iadd, 1) := by decide +kernel
theorem dX4_weight_35 : decode cX4_weight 35 = .ok (.ireturn, 1) := by decide +kernel
set_option maxRecDepth 20000 in
theorem ggX4_count_X4_isWithin : GoodIn wsX4_count wsX4_isWithin := goodIn_r _ [19] (by decide +kernel) (by decide +kernel)
set_option maxRecDepth 20000 in
theorem gX4_count_X4_isWithin : GoodIn wsX4_count (va_wsS RX4 49 yX4_isWithin wsX4_isWithin) := goodIn_app (goodIn_of _ (by decide +kernel)) ggX4_count_X4_isWithin
set_option maxRecDepth 20000 in
theorem ggX4_count_X4_sum : GoodIn wsX4_count wsX4_sum := goodIn_r _ [22] (by decide +kernel) (by decide +kernel)
set_option maxRecDepth 20000 in
theorem gX4_count_X4_sum : GoodIn wsX4_count (va_wsS RX4 100 yX4_sum wsX4_sum) := goodIn_app (goodIn_of _ (by decide +kernel)) ggX4_count_X4_sum
set_option maxRecDepth 20000 in
theorem ggX4_count_X3_wornOutExcuses : GoodIn wsX4_count wsX3_wornOutExcuses := goodIn_r _ [27, 28, 29, 30, 31, 26, 32, 33, 34, 35, 36, 37, 38, 39, 40, 41, 42, 43, 44, 45, 46, 47, 18, 48, 49, 50, 51, 52, 59, 60, 61, 62, 63, 64, 65, 66, 67, 68, 69, 70, 71, 72, 73] (by decide +kernel) (by decide +kernel)
set_option maxRecDepth 20000 in
theorem gX4_count_X3_wornOutExcuses : GoodIn wsX4_count (wsV RX4 177 RX3 yX3_wornOutExcuses wsX3_wornOutExcuses) := goodIn_app (goodIn_of _ (by decide +kernel)) ggX4_count_X3_wornOutExcuses
theorem dX4_count_0 : decode cX4_count 0 = .ok (.iload_n 1, 1) := by decide +kernel
theorem dX4_count_1 : decode cX4_count 1 = .ok (.iconst 0, 1) := by decide +kernel
theorem dX4_count_2 : decode cX4_count 2 = .ok (.getstatic 45, 3) := by decide +kernel
theorem dX4_count_5 : decode cX4_count 5 = .ok (.arraylength, 1) := by decide +kernel
theorem dX4_count_6 : decode cX4_count 6 = .ok (.iconst 1, 1) := by decide +kernel
theorem dX4_count_7 : decode cX4_count 7 = .ok (.isub, 1) := by decide +kernel
theorem dX4_count_8 : decode cX4_count 8 = .ok (.invokestatic 49, 3) := by decide +kernel
theorem dX4_count_11 : decode cX4_count 11 = .ok (.ifCond .eq 13, 3) := by decide +kernel
theorem dX4_count_14 : decode cX4_count 14 = .ok (.aload_n 0, 1) := by decide +kernel
theorem dX4_count_15 : decode cX4_count 15 = .ok (.getfield 10, 3) := by decide +kernel
theorem dX4_count_18 : decode cX4_count 18 = .ok (.getfield 63, 3) := by decide +kernel
theorem dX4_count_21 : decode cX4_count 21 = .ok (.iload_n 1, 1) := by decide +kernel
theorem dX4_count_22 : decode cX4_count 22 = .ok (.iaload, 1) := by decide +kernel
theorem dX4_count_23 : decode cX4_count 23 = .ok (.ireturn, 1) := by decide +kernel
theorem dX4_count_24 : decode cX4_count 24 = .ok (.iload_n 1, 1) := by decide +kernel
theorem dX4_count_25 : decode cX4_count 25 = .ok (.tableswitch 207 5 19 #[75, 83, 94, 94, 94, 94, 109, 120, 131, 153, 161, 172, 183, 191, 199], 75) := by decide +kernel
theorem dX4_count_100 : decode cX4_count 100 = .ok (.aload_n 0, 1) := by decide +kernel
theorem dX4_count_101 : decode cX4_count 101 = .ok (.getfield 10, 3) := by decide +kernel
theorem dX4_count_104 : decode cX4_count 104 = .ok (.getfield 66, 3) := by decide +kernel
theorem dX4_count_107 : decode cX4_count 107 = .ok (.ireturn, 1) := by decide +kernel
theorem dX4_count_108 : decode cX4_count 108 = .ok (.aload_n 0, 1) := by decide +kernel
theorem dX4_count_109 : decode cX4_count 109 = .ok (.getfield 10, 3) := by decide +kernel
theorem dX4_count_112 : decode cX4_count 112 = .ok (.getfield 144, 3) := by decide +kernel
theorem dX4_count_115 : decode cX4_count 115 = .ok (.invokestatic 100, 3) := by decide +kernel
theorem dX4_count_118 : decode cX4_count 118 = .ok (.ireturn, 1) := by decide +kernel
theorem dX4_count_119 : decode cX4_count 119 = .ok (.aload_n 0, 1) := by decide +kernel
theorem dX4_count_120 : decode cX4_count 120 = .ok (.getfield 10, 3) := by decide +kernel
theorem dX4_count_123 : decode cX4_count 123 = .ok (.getfield 171, 3) := by decide +kernel
theorem dX4_count_126 : decode cX4_count 126 = .ok (.iload_n 1, 1) := by decide +kernel
theorem dX4_count_127 : decode cX4_count 127 = .ok (.bipush 7, 2) := by decide +kernel
theorem dX4_count_129 : decode cX4_count 129 = .ok (.isub, 1) := by decide +kernel
theorem dX4_count_130 : decode cX4_count 130 = .ok (.iconst 1, 1) := by decide +kernel
theorem dX4_count_131 : decode cX4_count 131 = .ok (.iadd, 1) := by decide +kernel
theorem dX4_count_132 : decode cX4_count 132 = .ok (.iaload, 1) := by decide +kernel
theorem dX4_count_133 : decode cX4_count 133 = .ok (.ireturn, 1) := by decide +kernel
theorem dX4_count_134 : decode cX4_count 134 = .ok (.aload_n 0, 1) := by decide +kernel
theorem dX4_count_135 : decode cX4_count 135 = .ok (.getfield 10, 3) := by decide +kernel
theorem dX4_count_138 : decode cX4_count 138 = .ok (.getfield 91, 3) := by decide +kernel
theorem dX4_count_141 : decode cX4_count 141 = .ok (.invokestatic 100, 3) := by decide +kernel
theorem dX4_count_144 : decode cX4_count 144 = .ok (.ireturn, 1) := by decide +kernel
theorem dX4_count_145 : decode cX4_count 145 = .ok (.aload_n 0, 1) := by decide +kernel
theorem dX4_count_146 : decode cX4_count 146 = .ok (.getfield 10, 3) := by decide +kernel
theorem dX4_count_149 : decode cX4_count 149 = .ok (.getfield 94, 3) := by decide +kernel
theorem dX4_count_152 : decode cX4_count 152 = .ok (.invokestatic 100, 3) := by decide +kernel
theorem dX4_count_155 : decode cX4_count 155 = .ok (.ireturn, 1) := by decide +kernel
theorem dX4_count_156 : decode cX4_count 156 = .ok (.aload_n 0, 1) := by decide +kernel
theorem dX4_count_157 : decode cX4_count 157 = .ok (.getfield 10, 3) := by decide +kernel
theorem dX4_count_160 : decode cX4_count 160 = .ok (.getfield 91, 3) := by decide +kernel
theorem dX4_count_163 : decode cX4_count 163 = .ok (.invokestatic 100, 3) := by decide +kernel
theorem dX4_count_166 : decode cX4_count 166 = .ok (.aload_n 0, 1) := by decide +kernel
theorem dX4_count_167 : decode cX4_count 167 = .ok (.getfield 10, 3) := by decide +kernel
theorem dX4_count_170 : decode cX4_count 170 = .ok (.getfield 94, 3) := by decide +kernel
theorem dX4_count_173 : decode cX4_count 173 = .ok (.invokestatic 100, 3) := by decide +kernel
theorem dX4_count_176 : decode cX4_count 176 = .ok (.iadd, 1) := by decide +kernel
theorem dX4_count_177 : decode cX4_count 177 = .ok (.ireturn, 1) := by decide +kernel
theorem dX4_count_178 : decode cX4_count 178 = .ok (.aload_n 0, 1) := by decide +kernel
theorem dX4_count_179 : decode cX4_count 179 = .ok (.getfield 10, 3) := by decide +kernel
theorem dX4_count_182 : decode cX4_count 182 = .ok (.getfield 174, 3) := by decide +kernel
theorem dX4_count_185 : decode cX4_count 185 = .ok (.ireturn, 1) := by decide +kernel
theorem dX4_count_186 : decode cX4_count 186 = .ok (.aload_n 0, 1) := by decide +kernel
theorem dX4_count_187 : decode cX4_count 187 = .ok (.getfield 10, 3) := by decide +kernel
theorem dX4_count_190 : decode cX4_count 190 = .ok (.getfield 141, 3) := by decide +kernel
theorem dX4_count_193 : decode cX4_count 193 = .ok (.invokestatic 100, 3) := by decide +kernel
theorem dX4_count_196 : decode cX4_count 196 = .ok (.ireturn, 1) := by decide +kernel
theorem dX4_count_197 : decode cX4_count 197 = .ok (.aload_n 0, 1) := by decide +kernel
theorem dX4_count_198 : decode cX4_count 198 = .ok (.getfield 10, 3) := by decide +kernel
theorem dX4_count_201 : decode cX4_count 201 = .ok (.getfield 156, 3) := by decide +kernel
theorem dX4_count_204 : decode cX4_count 204 = .ok (.invokestatic 100, 3) := by decide +kernel
theorem dX4_count_207 : decode cX4_count 207 = .ok (.ireturn, 1) := by decide +kernel
theorem dX4_count_208 : decode cX4_count 208 = .ok (.aload_n 0, 1) := by decide +kernel
theorem dX4_count_209 : decode cX4_count 209 = .ok (.getfield 10, 3) := by decide +kernel
theorem dX4_count_212 : decode cX4_count 212 = .ok (.invokevirtual 177, 3) := by decide +kernel
theorem dX4_count_215 : decode cX4_count 215 = .ok (.ireturn, 1) := by decide +kernel
theorem dX4_count_216 : decode cX4_count 216 = .ok (.aload_n 0, 1) := by decide +kernel
theorem dX4_count_217 : decode cX4_count 217 = .ok (.getfield 34, 3) := by decide +kernel
theorem dX4_count_220 : decode cX4_count 220 = .ok (.getfield 114, 3) := by decide +kernel
theorem dX4_count_223 : decode cX4_count 223 = .ok (.ireturn, 1) := by decide +kernel
theorem dX4_count_224 : decode cX4_count 224 = .ok (.aload_n 0, 1) := by decide +kernel
theorem dX4_count_225 : decode cX4_count 225 = .ok (.getfield 19, 3) := by decide +kernel
theorem dX4_count_228 : decode cX4_count 228 = .ok (.getfield 180, 3) := by decide +kernel
theorem dX4_count_231 : decode cX4_count 231 = .ok (.ireturn, 1) := by decide +kernel
theorem dX4_count_232 : decode cX4_count 232 = .ok (.bipush (-2), 2) := by decide +kernel
theorem dX4_count_234 : decode cX4_count 234 = .ok (.ireturn, 1) := by decide +kernel
set_option maxRecDepth 20000 in
theorem ggX4_bestExcuse_X4_isPupil : GoodIn wsX4_bestExcuse wsX4_isPupil := goodIn_r _ [6, 7, 8, 5, 9] (by decide +kernel) (by decide +kernel)
set_option maxRecDepth 20000 in
theorem gX4_bestExcuse_X4_isPupil : GoodIn wsX4_bestExcuse (va_wsS RX4 88 yX4_isPupil wsX4_isPupil) := goodIn_app (goodIn_of _ (by decide +kernel)) ggX4_bestExcuse_X4_isPupil
set_option maxRecDepth 20000 in
theorem ggX4_bestExcuse_X4_isWithin : GoodIn wsX4_bestExcuse wsX4_isWithin := goodIn_r _ [9] (by decide +kernel) (by decide +kernel)
set_option maxRecDepth 20000 in
theorem gX4_bestExcuse_X4_isWithin : GoodIn wsX4_bestExcuse (va_wsS RX4 49 yX4_isWithin wsX4_isWithin) := goodIn_app (goodIn_of _ (by decide +kernel)) ggX4_bestExcuse_X4_isWithin
set_option maxRecDepth 20000 in
theorem ggX4_bestExcuse_X3_reasonAgainst : GoodIn wsX4_bestExcuse wsX3_reasonAgainst := goodIn_r _ [14, 15, 16, 17, 18, 19, 20, 21, 13, 22, 23, 24, 25, 26, 27, 28, 29, 30, 31, 32, 33, 34, 35, 36, 37, 38, 39, 40, 41, 42, 5, 43, 44, 45, 46, 47, 48, 49, 50, 51, 59, 60, 61, 62, 63, 64, 65, 66, 67, 68, 69, 70, 71, 72, 73] (by decide +kernel) (by decide +kernel)
set_option maxRecDepth 20000 in
theorem gX4_bestExcuse_X3_reasonAgainst : GoodIn wsX4_bestExcuse (wsV RX4 165 RX3 yX3_reasonAgainst wsX3_reasonAgainst) := goodIn_app (goodIn_of _ (by decide +kernel)) ggX4_bestExcuse_X3_reasonAgainst
set_option maxRecDepth 20000 in
theorem ggX4_bestExcuse_X3_weightOf : GoodIn wsX4_bestExcuse wsX3_weightOf := goodIn_r _ [27, 28, 15, 29, 30, 31, 32, 13, 33, 34, 35, 36, 37, 38, 39, 40, 41, 23, 42, 5, 43, 44, 45, 46, 47, 48, 49, 50, 51, 18, 59, 60, 61, 62, 63, 64, 65, 66, 67, 68, 69, 70, 71, 72, 73] (by decide +kernel) (by decide +kernel)
set_option maxRecDepth 20000 in
theorem gX4_bestExcuse_X3_weightOf : GoodIn wsX4_bestExcuse (wsV RX4 168 RX3 yX3_weightOf wsX3_weightOf) := goodIn_app (goodIn_of _ (by decide +kernel)) ggX4_bestExcuse_X3_weightOf
theorem dX4_bestExcuse_0 : decode cX4_bestExcuse 0 = .ok (.iload_n 1, 1) := by decide +kernel
theorem dX4_bestExcuse_1 : decode cX4_bestExcuse 1 = .ok (.invokestatic 88, 3) := by decide +kernel
theorem dX4_bestExcuse_4 : decode cX4_bestExcuse 4 = .ok (.ifCond .ne 5, 3) := by decide +kernel
theorem dX4_bestExcuse_7 : decode cX4_bestExcuse 7 = .ok (.iconst (-1), 1) := by decide +kernel
theorem dX4_bestExcuse_8 : decode cX4_bestExcuse 8 = .ok (.ireturn, 1) := by decide +kernel
theorem dX4_bestExcuse_9 : decode cX4_bestExcuse 9 = .ok (.iload_n 2, 1) := by decide +kernel
theorem dX4_bestExcuse_10 : decode cX4_bestExcuse 10 = .ok (.iconst 1, 1) := by decide +kernel
theorem dX4_bestExcuse_11 : decode cX4_bestExcuse 11 = .ok (.bipush 99, 2) := by decide +kernel
theorem dX4_bestExcuse_13 : decode cX4_bestExcuse 13 = .ok (.invokestatic 49, 3) := by decide +kernel
theorem dX4_bestExcuse_16 : decode cX4_bestExcuse 16 = .ok (.ifCond .ne 6, 3) := by decide +kernel
theorem dX4_bestExcuse_19 : decode cX4_bestExcuse 19 = .ok (.bipush (-2), 2) := by decide +kernel
theorem dX4_bestExcuse_21 : decode cX4_bestExcuse 21 = .ok (.ireturn, 1) := by decide +kernel
theorem dX4_bestExcuse_22 : decode cX4_bestExcuse 22 = .ok (.bipush (-6), 2) := by decide +kernel
theorem dX4_bestExcuse_24 : decode cX4_bestExcuse 24 = .ok (.istore_n 3, 1) := by decide +kernel
theorem dX4_bestExcuse_25 : decode cX4_bestExcuse 25 = .ok (.iconst 0, 1) := by decide +kernel
theorem dX4_bestExcuse_26 : decode cX4_bestExcuse 26 = .ok (.istore 4, 2) := by decide +kernel
theorem dX4_bestExcuse_28 : decode cX4_bestExcuse 28 = .ok (.iconst 0, 1) := by decide +kernel
theorem dX4_bestExcuse_29 : decode cX4_bestExcuse 29 = .ok (.istore 5, 2) := by decide +kernel
theorem dX4_bestExcuse_31 : decode cX4_bestExcuse 31 = .ok (.iload 5, 2) := by decide +kernel
theorem dX4_bestExcuse_33 : decode cX4_bestExcuse 33 = .ok (.aload_n 0, 1) := by decide +kernel
theorem dX4_bestExcuse_34 : decode cX4_bestExcuse 34 = .ok (.getfield 10, 3) := by decide +kernel
theorem dX4_bestExcuse_37 : decode cX4_bestExcuse 37 = .ok (.getfield 66, 3) := by decide +kernel
theorem dX4_bestExcuse_40 : decode cX4_bestExcuse 40 = .ok (.if_icmp .ge 60, 3) := by decide +kernel
theorem dX4_bestExcuse_43 : decode cX4_bestExcuse 43 = .ok (.aload_n 0, 1) := by decide +kernel
theorem dX4_bestExcuse_44 : decode cX4_bestExcuse 44 = .ok (.getfield 10, 3) := by decide +kernel
theorem dX4_bestExcuse_47 : decode cX4_bestExcuse 47 = .ok (.iload_n 1, 1) := by decide +kernel
theorem dX4_bestExcuse_48 : decode cX4_bestExcuse 48 = .ok (.iload 5, 2) := by decide +kernel
theorem dX4_bestExcuse_50 : decode cX4_bestExcuse 50 = .ok (.bipush (-6), 2) := by decide +kernel
theorem dX4_bestExcuse_52 : decode cX4_bestExcuse 52 = .ok (.iload_n 2, 1) := by decide +kernel
theorem dX4_bestExcuse_53 : decode cX4_bestExcuse 53 = .ok (.invokevirtual 165, 3) := by decide +kernel
theorem dX4_bestExcuse_56 : decode cX4_bestExcuse 56 = .ok (.ifCond .ne 38, 3) := by decide +kernel
theorem dX4_bestExcuse_59 : decode cX4_bestExcuse 59 = .ok (.aload_n 0, 1) := by decide +kernel
theorem dX4_bestExcuse_60 : decode cX4_bestExcuse 60 = .ok (.getfield 10, 3) := by decide +kernel
theorem dX4_bestExcuse_63 : decode cX4_bestExcuse 63 = .ok (.iload_n 1, 1) := by decide +kernel
theorem dX4_bestExcuse_64 : decode cX4_bestExcuse 64 = .ok (.iload 5, 2) := by decide +kernel
theorem dX4_bestExcuse_66 : decode cX4_bestExcuse 66 = .ok (.bipush (-6), 2) := by decide +kernel
theorem dX4_bestExcuse_68 : decode cX4_bestExcuse 68 = .ok (.iload_n 2, 1) := by decide +kernel
theorem dX4_bestExcuse_69 : decode cX4_bestExcuse 69 = .ok (.invokevirtual 168, 3) := by decide +kernel
theorem dX4_bestExcuse_72 : decode cX4_bestExcuse 72 = .ok (.istore 6, 2) := by decide +kernel
theorem dX4_bestExcuse_74 : decode cX4_bestExcuse 74 = .ok (.iload_n 3, 1) := by decide +kernel
theorem dX4_bestExcuse_75 : decode cX4_bestExcuse 75 = .ok (.bipush (-6), 2) := by decide +kernel
theorem dX4_bestExcuse_77 : decode cX4_bestExcuse 77 = .ok (.if_icmp .eq 10, 3) := by decide +kernel
theorem dX4_bestExcuse_80 : decode cX4_bestExcuse 80 = .ok (.iload 6, 2) := by decide +kernel
theorem dX4_bestExcuse_82 : decode cX4_bestExcuse 82 = .ok (.iload 4, 2) := by decide +kernel
theorem dX4_bestExcuse_84 : decode cX4_bestExcuse 84 = .ok (.if_icmp .le 10, 3) := by decide +kernel
theorem dX4_bestExcuse_87 : decode cX4_bestExcuse 87 = .ok (.iload 5, 2) := by decide +kernel
theorem dX4_bestExcuse_89 : decode cX4_bestExcuse 89 = .ok (.istore_n 3, 1) := by decide +kernel
theorem dX4_bestExcuse_90 : decode cX4_bestExcuse 90 = .ok (.iload 6, 2) := by decide +kernel
theorem dX4_bestExcuse_92 : decode cX4_bestExcuse 92 = .ok (.istore 4, 2) := by decide +kernel
theorem dX4_bestExcuse_94 : decode cX4_bestExcuse 94 = .ok (.iinc 5 1, 3) := by decide +kernel
theorem dX4_bestExcuse_97 : decode cX4_bestExcuse 97 = .ok (.goto (-66), 3) := by decide +kernel
theorem dX4_bestExcuse_100 : decode cX4_bestExcuse 100 = .ok (.iload_n 3, 1) := by decide +kernel
theorem dX4_bestExcuse_101 : decode cX4_bestExcuse 101 = .ok (.ireturn, 1) := by decide +kernel
set_option maxRecDepth 20000 in
theorem ggX4_bestWitness_X4_isPupil : GoodIn wsX4_bestWitness wsX4_isPupil := goodIn_r _ [6, 7, 8, 5, 9] (by decide +kernel) (by decide +kernel)
set_option maxRecDepth 20000 in
theorem gX4_bestWitness_X4_isPupil : GoodIn wsX4_bestWitness (va_wsS RX4 88 yX4_isPupil wsX4_isPupil) := goodIn_app (goodIn_of _ (by decide +kernel)) ggX4_bestWitness_X4_isPupil
set_option maxRecDepth 20000 in
theorem ggX4_bestWitness_X3_hasExcuse : GoodIn wsX4_bestWitness wsX3_hasExcuse := goodIn_r _ [14, 15, 53, 54, 55, 56, 57, 58, 59, 60, 61, 62, 63, 64, 65, 66, 67] (by decide +kernel) (by decide +kernel)
set_option maxRecDepth 20000 in
theorem gX4_bestWitness_X3_hasExcuse : GoodIn wsX4_bestWitness (wsV RX4 74 RX3 yX3_hasExcuse wsX3_hasExcuse) := goodIn_app (goodIn_of _ (by decide +kernel)) ggX4_bestWitness_X3_hasExcuse
set_option maxRecDepth 20000 in
theorem ggX4_bestWitness_X4_isWithin : GoodIn wsX4_bestWitness wsX4_isWithin := goodIn_r _ [9] (by decide +kernel) (by decide +kernel)
set_option maxRecDepth 20000 in
theorem gX4_bestWitness_X4_isWithin : GoodIn wsX4_bestWitness (va_wsS RX4 49 yX4_isWithin wsX4_isWithin) := goodIn_app (goodIn_of _ (by decide +kernel)) ggX4_bestWitness_X4_isWithin
set_option maxRecDepth 20000 in
theorem ggX4_bestWitness_X3_weightOf : GoodIn wsX4_bestWitness wsX3_weightOf := goodIn_r _ [19, 20, 21, 22, 23, 24, 25, 13, 26, 27, 28, 29, 30, 31, 32, 33, 34, 35, 36, 5, 37, 38, 39, 40, 41, 42, 43, 44, 45, 46, 53, 54, 55, 56, 57, 58, 59, 60, 61, 62, 63, 64, 65, 66, 67] (by decide +kernel) (by decide +kernel)
set_option maxRecDepth 20000 in
theorem gX4_bestWitness_X3_weightOf : GoodIn wsX4_bestWitness (wsV RX4 168 RX3 yX3_weightOf wsX3_weightOf) := goodIn_app (goodIn_of _ (by decide +kernel)) ggX4_bestWitness_X3_weightOf
theorem dX4_bestWitness_0 : decode cX4_bestWitness 0 = .ok (.iload_n 1, 1) := by decide +kernel
theorem dX4_bestWitness_1 : decode cX4_bestWitness 1 = .ok (.invokestatic 88, 3) := by decide +kernel
theorem dX4_bestWitness_4 : decode cX4_bestWitness 4 = .ok (.ifCond .eq 14, 3) := by decide +kernel
theorem dX4_bestWitness_7 : decode cX4_bestWitness 7 = .ok (.aload_n 0, 1) := by decide +kernel
theorem dX4_bestWitness_8 : decode cX4_bestWitness 8 = .ok (.getfield 10, 3) := by decide +kernel
theorem dX4_bestWitness_11 : decode cX4_bestWitness 11 = .ok (.iload_n 2, 1) := by decide +kernel
theorem dX4_bestWitness_12 : decode cX4_bestWitness 12 = .ok (.invokevirtual 74, 3) := by decide +kernel
theorem dX4_bestWitness_15 : decode cX4_bestWitness 15 = .ok (.ifCond .ne 5, 3) := by decide +kernel
theorem dX4_bestWitness_18 : decode cX4_bestWitness 18 = .ok (.iconst (-1), 1) := by decide +kernel
theorem dX4_bestWitness_19 : decode cX4_bestWitness 19 = .ok (.ireturn, 1) := by decide +kernel
theorem dX4_bestWitness_20 : decode cX4_bestWitness 20 = .ok (.iload_n 3, 1) := by decide +kernel
theorem dX4_bestWitness_21 : decode cX4_bestWitness 21 = .ok (.iconst 1, 1) := by decide +kernel
theorem dX4_bestWitness_22 : decode cX4_bestWitness 22 = .ok (.bipush 99, 2) := by decide +kernel
theorem dX4_bestWitness_24 : decode cX4_bestWitness 24 = .ok (.invokestatic 49, 3) := by decide +kernel
theorem dX4_bestWitness_27 : decode cX4_bestWitness 27 = .ok (.ifCond .ne 6, 3) := by decide +kernel
theorem dX4_bestWitness_30 : decode cX4_bestWitness 30 = .ok (.bipush (-2), 2) := by decide +kernel
theorem dX4_bestWitness_32 : decode cX4_bestWitness 32 = .ok (.ireturn, 1) := by decide +kernel
theorem dX4_bestWitness_33 : decode cX4_bestWitness 33 = .ok (.bipush (-6), 2) := by decide +kernel
theorem dX4_bestWitness_35 : decode cX4_bestWitness 35 = .ok (.istore 4, 2) := by decide +kernel
theorem dX4_bestWitness_37 : decode cX4_bestWitness 37 = .ok (.iconst 0, 1) := by decide +kernel
theorem dX4_bestWitness_38 : decode cX4_bestWitness 38 = .ok (.istore 5, 2) := by decide +kernel
theorem dX4_bestWitness_40 : decode cX4_bestWitness 40 = .ok (.iconst 0, 1) := by decide +kernel
theorem dX4_bestWitness_41 : decode cX4_bestWitness 41 = .ok (.istore 6, 2) := by decide +kernel
theorem dX4_bestWitness_43 : decode cX4_bestWitness 43 = .ok (.iload 6, 2) := by decide +kernel
theorem dX4_bestWitness_45 : decode cX4_bestWitness 45 = .ok (.bipush 10, 2) := by decide +kernel
theorem dX4_bestWitness_47 : decode cX4_bestWitness 47 = .ok (.if_icmp .ge 64, 3) := by decide +kernel
theorem dX4_bestWitness_50 : decode cX4_bestWitness 50 = .ok (.iload 6, 2) := by decide +kernel
theorem dX4_bestWitness_52 : decode cX4_bestWitness 52 = .ok (.iload_n 1, 1) := by decide +kernel
theorem dX4_bestWitness_53 : decode cX4_bestWitness 53 = .ok (.if_icmp .eq 52, 3) := by decide +kernel
theorem dX4_bestWitness_56 : decode cX4_bestWitness 56 = .ok (.aload_n 0, 1) := by decide +kernel
theorem dX4_bestWitness_57 : decode cX4_bestWitness 57 = .ok (.getfield 10, 3) := by decide +kernel
theorem dX4_bestWitness_60 : decode cX4_bestWitness 60 = .ok (.getfield 141, 3) := by decide +kernel
theorem dX4_bestWitness_63 : decode cX4_bestWitness 63 = .ok (.iload 6, 2) := by decide +kernel
theorem dX4_bestWitness_65 : decode cX4_bestWitness 65 = .ok (.iaload, 1) := by decide +kernel
theorem dX4_bestWitness_66 : decode cX4_bestWitness 66 = .ok (.ifCond .le 39, 3) := by decide +kernel
theorem dX4_bestWitness_69 : decode cX4_bestWitness 69 = .ok (.aload_n 0, 1) := by decide +kernel
theorem dX4_bestWitness_70 : decode cX4_bestWitness 70 = .ok (.getfield 10, 3) := by decide +kernel
theorem dX4_bestWitness_73 : decode cX4_bestWitness 73 = .ok (.iload_n 1, 1) := by decide +kernel
theorem dX4_bestWitness_74 : decode cX4_bestWitness 74 = .ok (.iload_n 2, 1) := by decide +kernel
theorem dX4_bestWitness_75 : decode cX4_bestWitness 75 = .ok (.iload 6, 2) := by decide +kernel
theorem dX4_bestWitness_77 : decode cX4_bestWitness 77 = .ok (.iload_n 3, 1) := by decide +kernel
theorem dX4_bestWitness_78 : decode cX4_bestWitness 78 = .ok (.invokevirtual 168, 3) := by decide +kernel
theorem dX4_bestWitness_81 : decode cX4_bestWitness 81 = .ok (.istore 7, 2) := by decide +kernel
theorem dX4_bestWitness_83 : decode cX4_bestWitness 83 = .ok (.iload 4, 2) := by decide +kernel
theorem dX4_bestWitness_85 : decode cX4_bestWitness 85 = .ok (.bipush (-6), 2) := by decide +kernel
theorem dX4_bestWitness_87 : decode cX4_bestWitness 87 = .ok (.if_icmp .eq 10, 3) := by decide +kernel
theorem dX4_bestWitness_90 : decode cX4_bestWitness 90 = .ok (.iload 7, 2) := by decide +kernel
theorem dX4_bestWitness_92 : decode cX4_bestWitness 92 = .ok (.iload 5, 2) := by decide +kernel
theorem dX4_bestWitness_94 : decode cX4_bestWitness 94 = .ok (.if_icmp .le 11, 3) := by decide +kernel
theorem dX4_bestWitness_97 : decode cX4_bestWitness 97 = .ok (.iload 6, 2) := by decide +kernel
theorem dX4_bestWitness_99 : decode cX4_bestWitness 99 = .ok (.istore 4, 2) := by decide +kernel
theorem dX4_bestWitness_101 : decode cX4_bestWitness 101 = .ok (.iload 7, 2) := by decide +kernel
theorem dX4_bestWitness_103 : decode cX4_bestWitness 103 = .ok (.istore 5, 2) := by decide +kernel
theorem dX4_bestWitness_105 : decode cX4_bestWitness 105 = .ok (.iinc 6 1, 3) := by decide +kernel
theorem dX4_bestWitness_108 : decode cX4_bestWitness 108 = .ok (.goto (-65), 3) := by decide +kernel
theorem dX4_bestWitness_111 : decode cX4_bestWitness 111 = .ok (.iload 4, 2) := by decide +kernel
theorem dX4_bestWitness_113 : decode cX4_bestWitness 113 = .ok (.ireturn, 1) := by decide +kernel
set_option maxRecDepth 20000 in
theorem ggX4_mostMinutes_X4_isPupil : GoodIn wsX4_mostMinutes wsX4_isPupil := goodIn_r _ [5, 6, 7, 4, 8] (by decide +kernel) (by decide +kernel)
set_option maxRecDepth 20000 in
theorem gX4_mostMinutes_X4_isPupil : GoodIn wsX4_mostMinutes (va_wsS RX4 88 yX4_isPupil wsX4_isPupil) := goodIn_app (goodIn_of _ (by decide +kernel)) ggX4_mostMinutes_X4_isPupil
set_option maxRecDepth 20000 in
theorem ggX4_mostMinutes_X3_hasExcuse : GoodIn wsX4_mostMinutes wsX3_hasExcuse := goodIn_r _ [13, 14, 62, 63, 64, 65, 66, 67, 68, 69, 70, 71, 72, 73, 74, 75, 76] (by decide +kernel) (by decide +kernel)
set_option maxRecDepth 20000 in
theorem gX4_mostMinutes_X3_hasExcuse : GoodIn wsX4_mostMinutes (wsV RX4 74 RX3 yX3_hasExcuse wsX3_hasExcuse) := goodIn_app (goodIn_of _ (by decide +kernel)) ggX4_mostMinutes_X3_hasExcuse
set_option maxRecDepth 20000 in
theorem ggX4_mostMinutes_X3_reasonAgainst : GoodIn wsX4_mostMinutes wsX3_reasonAgainst := goodIn_r _ [18, 19, 20, 21, 22, 23, 24, 25, 12, 26, 27, 28, 29, 30, 31, 32, 33, 34, 35, 36, 37, 38, 39, 40, 41, 42, 43, 44, 45, 46, 4, 47, 48, 49, 50, 51, 52, 53, 54, 55, 62, 63, 64, 65, 66, 67, 68, 69, 70, 71, 72, 73, 74, 75, 76] (by decide +kernel) (by decide +kernel)
set_option maxRecDepth 20000 in
theorem gX4_mostMinutes_X3_reasonAgainst : GoodIn wsX4_mostMinutes (wsV RX4 165 RX3 yX3_reasonAgainst wsX3_reasonAgainst) := goodIn_app (goodIn_of _ (by decide +kernel)) ggX4_mostMinutes_X3_reasonAgainst
theorem dX4_mostMinutes_0 : decode cX4_mostMinutes 0 = .ok (.iload_n 1, 1) := by decide +kernel
theorem dX4_mostMinutes_1 : decode cX4_mostMinutes 1 = .ok (.invokestatic 88, 3) := by decide +kernel
theorem dX4_mostMinutes_4 : decode cX4_mostMinutes 4 = .ok (.ifCond .eq 14, 3) := by decide +kernel
theorem dX4_mostMinutes_7 : decode cX4_mostMinutes 7 = .ok (.aload_n 0, 1) := by decide +kernel
theorem dX4_mostMinutes_8 : decode cX4_mostMinutes 8 = .ok (.getfield 10, 3) := by decide +kernel
theorem dX4_mostMinutes_11 : decode cX4_mostMinutes 11 = .ok (.iload_n 2, 1) := by decide +kernel
theorem dX4_mostMinutes_12 : decode cX4_mostMinutes 12 = .ok (.invokevirtual 74, 3) := by decide +kernel
theorem dX4_mostMinutes_15 : decode cX4_mostMinutes 15 = .ok (.ifCond .ne 5, 3) := by decide +kernel
theorem dX4_mostMinutes_18 : decode cX4_mostMinutes 18 = .ok (.iconst (-1), 1) := by decide +kernel
theorem dX4_mostMinutes_19 : decode cX4_mostMinutes 19 = .ok (.ireturn, 1) := by decide +kernel
theorem dX4_mostMinutes_20 : decode cX4_mostMinutes 20 = .ok (.bipush 99, 2) := by decide +kernel
theorem dX4_mostMinutes_22 : decode cX4_mostMinutes 22 = .ok (.istore_n 3, 1) := by decide +kernel
theorem dX4_mostMinutes_23 : decode cX4_mostMinutes 23 = .ok (.iload_n 3, 1) := by decide +kernel
theorem dX4_mostMinutes_24 : decode cX4_mostMinutes 24 = .ok (.iconst 1, 1) := by decide +kernel
theorem dX4_mostMinutes_25 : decode cX4_mostMinutes 25 = .ok (.if_icmp .lt 26, 3) := by decide +kernel
theorem dX4_mostMinutes_28 : decode cX4_mostMinutes 28 = .ok (.aload_n 0, 1) := by decide +kernel
theorem dX4_mostMinutes_29 : decode cX4_mostMinutes 29 = .ok (.getfield 10, 3) := by decide +kernel
theorem dX4_mostMinutes_32 : decode cX4_mostMinutes 32 = .ok (.iload_n 1, 1) := by decide +kernel
theorem dX4_mostMinutes_33 : decode cX4_mostMinutes 33 = .ok (.iload_n 2, 1) := by decide +kernel
theorem dX4_mostMinutes_34 : decode cX4_mostMinutes 34 = .ok (.bipush (-6), 2) := by decide +kernel
theorem dX4_mostMinutes_36 : decode cX4_mostMinutes 36 = .ok (.iload_n 3, 1) := by decide +kernel
theorem dX4_mostMinutes_37 : decode cX4_mostMinutes 37 = .ok (.invokevirtual 165, 3) := by decide +kernel
theorem dX4_mostMinutes_40 : decode cX4_mostMinutes 40 = .ok (.ifCond .ne 5, 3) := by decide +kernel
theorem dX4_mostMinutes_43 : decode cX4_mostMinutes 43 = .ok (.iload_n 3, 1) := by decide +kernel
theorem dX4_mostMinutes_44 : decode cX4_mostMinutes 44 = .ok (.ireturn, 1) := by decide +kernel
theorem dX4_mostMinutes_45 : decode cX4_mostMinutes 45 = .ok (.iinc 3 (-1), 3) := by decide +kernel
theorem dX4_mostMinutes_48 : decode cX4_mostMinutes 48 = .ok (.goto (-25), 3) := by decide +kernel
theorem dX4_mostMinutes_51 : decode cX4_mostMinutes 51 = .ok (.bipush (-6), 2) := by decide +kernel
theorem dX4_mostMinutes_53 : decode cX4_mostMinutes 53 = .ok (.ireturn, 1) := by decide +kernel
theorem dX4_wipe_0 : decode cX4_wipe 0 = .ok (.aload_n 0, 1) := by decide +kernel
theorem dX4_wipe_1 : decode cX4_wipe 1 = .ok (.getfield 34, 3) := by decide +kernel
theorem dX4_wipe_4 : decode cX4_wipe 4 = .ok (.getfield 114, 3) := by decide +kernel
theorem dX4_wipe_7 : decode cX4_wipe 7 = .ok (.istore_n 1, 1) := by decide +kernel
theorem dX4_wipe_8 : decode cX4_wipe 8 = .ok (.aload_n 0, 1) := by decide +kernel
theorem dX4_wipe_9 : decode cX4_wipe 9 = .ok (.getfield 34, 3) := by decide +kernel
theorem dX4_wipe_12 : decode cX4_wipe 12 = .ok (.iconst 0, 1) := by decide +kernel
theorem dX4_wipe_13 : decode cX4_wipe 13 = .ok (.putfield 114, 3) := by decide +kernel
theorem dX4_wipe_16 : decode cX4_wipe 16 = .ok (.iload_n 1, 1) := by decide +kernel
theorem dX4_wipe_17 : decode cX4_wipe 17 = .ok (.ireturn, 1) := by decide +kernel
set_option maxRecDepth 20000 in
theorem ggX4_fault_X2_begin : GoodIn wsX4_fault wsX2_begin := goodIn_r _ [9, 10, 11, 65, 66, 67, 68, 69] (by decide +kernel) (by decide +kernel)
set_option maxRecDepth 20000 in
theorem gX4_fault_X2_begin : GoodIn wsX4_fault (wsV RX4 111 RX2 yX2_begin wsX2_begin) := goodIn_app (goodIn_of _ (by decide +kernel)) ggX4_fault_X2_begin
set_option maxRecDepth 20000 in
theorem ggX4_fault_X2_takes : GoodIn wsX4_fault wsX2_takes := goodIn_r _ [15, 10, 16, 17, 18, 19, 8, 20, 21, 22, 23, 24, 25, 26, 27, 28, 29, 30, 31, 32, 33, 34, 35, 36, 37, 38, 39, 40, 41, 42, 43, 44, 45, 46, 47, 48, 11, 49, 50, 51, 52, 65, 66, 67, 68, 69] (by decide +kernel) (by decide +kernel)
set_option maxRecDepth 20000 in
theorem gX4_fault_X2_takes : GoodIn wsX4_fault (wsV RX4 124 RX2 yX2_takes wsX2_takes) := goodIn_app (goodIn_of _ (by decide +kernel)) ggX4_fault_X2_takes
set_option maxRecDepth 20000 in
theorem ggX4_fault_X2_canEnd : GoodIn wsX4_fault wsX2_canEnd := goodIn_r _ [56, 10, 65, 66, 67, 68, 69] (by decide +kernel) (by decide +kernel)
set_option maxRecDepth 20000 in
theorem gX4_fault_X2_canEnd : GoodIn wsX4_fault (wsV RX4 195 RX2 yX2_canEnd wsX2_canEnd) := goodIn_app (goodIn_of _ (by decide +kernel)) ggX4_fault_X2_canEnd
theorem dX4_fault_0 : decode cX4_fault 0 = .ok (.aload_n 0, 1) := by decide +kernel
theorem dX4_fault_1 : decode cX4_fault 1 = .ok (.getfield 41, 3) := by decide +kernel
theorem dX4_fault_4 : decode cX4_fault 4 = .ok (.invokevirtual 111, 3) := by decide +kernel
theorem dX4_fault_7 : decode cX4_fault 7 = .ok (.iconst 0, 1) := by decide +kernel
theorem dX4_fault_8 : decode cX4_fault 8 = .ok (.istore_n 1, 1) := by decide +kernel
theorem dX4_fault_9 : decode cX4_fault 9 = .ok (.iload_n 1, 1) := by decide +kernel
theorem dX4_fault_10 : decode cX4_fault 10 = .ok (.aload_n 0, 1) := by decide +kernel
theorem dX4_fault_11 : decode cX4_fault 11 = .ok (.getfield 34, 3) := by decide +kernel
theorem dX4_fault_14 : decode cX4_fault 14 = .ok (.getfield 114, 3) := by decide +kernel
theorem dX4_fault_17 : decode cX4_fault 17 = .ok (.if_icmp .ge 30, 3) := by decide +kernel
theorem dX4_fault_20 : decode cX4_fault 20 = .ok (.aload_n 0, 1) := by decide +kernel
theorem dX4_fault_21 : decode cX4_fault 21 = .ok (.getfield 41, 3) := by decide +kernel
theorem dX4_fault_24 : decode cX4_fault 24 = .ok (.aload_n 0, 1) := by decide +kernel
theorem dX4_fault_25 : decode cX4_fault 25 = .ok (.getfield 34, 3) := by decide +kernel
theorem dX4_fault_28 : decode cX4_fault 28 = .ok (.getfield 117, 3) := by decide +kernel
theorem dX4_fault_31 : decode cX4_fault 31 = .ok (.iload_n 1, 1) := by decide +kernel
theorem dX4_fault_32 : decode cX4_fault 32 = .ok (.caload, 1) := by decide +kernel
theorem dX4_fault_33 : decode cX4_fault 33 = .ok (.invokevirtual 124, 3) := by decide +kernel
theorem dX4_fault_36 : decode cX4_fault 36 = .ok (.ifCond .ne 5, 3) := by decide +kernel
theorem dX4_fault_39 : decode cX4_fault 39 = .ok (.iload_n 1, 1) := by decide +kernel
theorem dX4_fault_40 : decode cX4_fault 40 = .ok (.ireturn, 1) := by decide +kernel
theorem dX4_fault_41 : decode cX4_fault 41 = .ok (.iinc 1 1, 3) := by decide +kernel
theorem dX4_fault_44 : decode cX4_fault 44 = .ok (.goto (-35), 3) := by decide +kernel
theorem dX4_fault_47 : decode cX4_fault 47 = .ok (.aload_n 0, 1) := by decide +kernel
theorem dX4_fault_48 : decode cX4_fault 48 = .ok (.getfield 41, 3) := by decide +kernel
theorem dX4_fault_51 : decode cX4_fault 51 = .ok (.invokevirtual 195, 3) := by decide +kernel
theorem dX4_fault_54 : decode cX4_fault 54 = .ok (.ifCond .eq 8, 3) := by decide +kernel
theorem dX4_fault_57 : decode cX4_fault 57 = .ok (.bipush (-6), 2) := by decide +kernel
theorem dX4_fault_59 : decode cX4_fault 59 = .ok (.goto 10, 3) := by decide +kernel
theorem dX4_fault_62 : decode cX4_fault 62 = .ok (.aload_n 0, 1) := by decide +kernel
theorem dX4_fault_63 : decode cX4_fault 63 = .ok (.getfield 34, 3) := by decide +kernel
theorem dX4_fault_66 : decode cX4_fault 66 = .ok (.getfield 114, 3) := by decide +kernel
theorem dX4_fault_69 : decode cX4_fault 69 = .ok (.ireturn, 1) := by decide +kernel
set_option maxRecDepth 20000 in
theorem ggX4_undo_X0_takeBack : GoodIn wsX4_undo wsX0_takeBack := goodIn_r _ [8, 9, 10, 11, 12, 13, 14, 15, 16, 17, 18, 19, 20, 21, 22, 23, 24, 25, 26, 27, 28, 29, 30, 31, 32, 33, 34, 35, 36, 37, 38, 39, 40, 41, 42, 49, 50, 51, 52, 53, 54, 55, 56, 57, 58, 59, 60, 61, 62, 63, 64, 65, 66] (by decide +kernel) (by decide +kernel)
set_option maxRecDepth 20000 in
theorem gX4_undo_X0_takeBack : GoodIn wsX4_undo (wsV RX4 199 RX0 yX0_takeBack wsX0_takeBack) := goodIn_app (goodIn_of _ (by decide +kernel)) ggX4_undo_X0_takeBack
theorem dX4_undo_0 : decode cX4_undo 0 = .ok (.aload_n 0, 1) := by decide +kernel
theorem dX4_undo_1 : decode cX4_undo 1 = .ok (.getfield 19, 3) := by decide +kernel
theorem dX4_undo_4 : decode cX4_undo 4 = .ok (.getfield 180, 3) := by decide +kernel
theorem dX4_undo_7 : decode cX4_undo 7 = .ok (.ifCond .ne 6, 3) := by decide +kernel
theorem dX4_undo_10 : decode cX4_undo 10 = .ok (.bipush (-5), 2) := by decide +kernel
theorem dX4_undo_12 : decode cX4_undo 12 = .ok (.ireturn, 1) := by decide +kernel
theorem dX4_undo_13 : decode cX4_undo 13 = .ok (.aload_n 0, 1) := by decide +kernel
theorem dX4_undo_14 : decode cX4_undo 14 = .ok (.getfield 19, 3) := by decide +kernel
theorem dX4_undo_17 : decode cX4_undo 17 = .ok (.aload_n 0, 1) := by decide +kernel
theorem dX4_undo_18 : decode cX4_undo 18 = .ok (.getfield 10, 3) := by decide +kernel
theorem dX4_undo_21 : decode cX4_undo 21 = .ok (.invokevirtual 199, 3) := by decide +kernel
theorem dX4_undo_24 : decode cX4_undo 24 = .ok (.aload_n 0, 1) := by decide +kernel
theorem dX4_undo_25 : decode cX4_undo 25 = .ok (.getfield 19, 3) := by decide +kernel
theorem dX4_undo_28 : decode cX4_undo 28 = .ok (.getfield 180, 3) := by decide +kernel
theorem dX4_undo_31 : decode cX4_undo 31 = .ok (.ireturn, 1) := by decide +kernel
set_option maxRecDepth 20000 in
theorem ggX4_save_X4_isWithin : GoodIn wsX4_save wsX4_isWithin := goodIn_r _ [8] (by decide +kernel) (by decide +kernel)
set_option maxRecDepth 20000 in
theorem gX4_save_X4_isWithin : GoodIn wsX4_save (va_wsS RX4 49 yX4_isWithin wsX4_isWithin) := goodIn_app (goodIn_of _ (by decide +kernel)) ggX4_save_X4_isWithin
set_option maxRecDepth 20000 in
theorem ggX4_save_X3_become : GoodIn wsX4_save wsX3_become := goodIn_r _ [13, 14, 15, 16, 17, 18, 19, 20, 21, 22, 23, 24, 25, 26, 27, 28, 29, 7, 30, 31, 32, 33, 34, 35, 36, 37, 38, 45, 46, 47, 48, 49, 50, 51, 52, 53, 54, 55, 56, 57, 58, 59] (by decide +kernel) (by decide +kernel)
set_option maxRecDepth 20000 in
theorem gX4_save_X3_become : GoodIn wsX4_save (wsV RX4 202 RX3 yX3_become wsX3_become) := goodIn_app (goodIn_of _ (by decide +kernel)) ggX4_save_X3_become
theorem dX4_save_0 : decode cX4_save 0 = .ok (.iload_n 1, 1) := by decide +kernel
theorem dX4_save_1 : decode cX4_save 1 = .ok (.iconst 0, 1) := by decide +kernel
theorem dX4_save_2 : decode cX4_save 2 = .ok (.iconst 1, 1) := by decide +kernel
theorem dX4_save_3 : decode cX4_save 3 = .ok (.invokestatic 49, 3) := by decide +kernel
theorem dX4_save_6 : decode cX4_save 6 = .ok (.ifCond .ne 6, 3) := by decide +kernel
theorem dX4_save_9 : decode cX4_save 9 = .ok (.bipush (-2), 2) := by decide +kernel
theorem dX4_save_11 : decode cX4_save 11 = .ok (.ireturn, 1) := by decide +kernel
theorem dX4_save_12 : decode cX4_save 12 = .ok (.aload_n 0, 1) := by decide +kernel
theorem dX4_save_13 : decode cX4_save 13 = .ok (.getfield 23, 3) := by decide +kernel
theorem dX4_save_16 : decode cX4_save 16 = .ok (.iload_n 1, 1) := by decide +kernel
theorem dX4_save_17 : decode cX4_save 17 = .ok (.aaload, 1) := by decide +kernel
theorem dX4_save_18 : decode cX4_save 18 = .ok (.aload_n 0, 1) := by decide +kernel
theorem dX4_save_19 : decode cX4_save 19 = .ok (.getfield 10, 3) := by decide +kernel
theorem dX4_save_22 : decode cX4_save 22 = .ok (.invokevirtual 202, 3) := by decide +kernel
theorem dX4_save_25 : decode cX4_save 25 = .ok (.aload_n 0, 1) := by decide +kernel
theorem dX4_save_26 : decode cX4_save 26 = .ok (.getfield 27, 3) := by decide +kernel
theorem dX4_save_29 : decode cX4_save 29 = .ok (.iload_n 1, 1) := by decide +kernel
theorem dX4_save_30 : decode cX4_save 30 = .ok (.iconst 1, 1) := by decide +kernel
theorem dX4_save_31 : decode cX4_save 31 = .ok (.bastore, 1) := by decide +kernel
theorem dX4_save_32 : decode cX4_save 32 = .ok (.aload_n 0, 1) := by decide +kernel
theorem dX4_save_33 : decode cX4_save 33 = .ok (.getfield 10, 3) := by decide +kernel
theorem dX4_save_36 : decode cX4_save 36 = .ok (.getfield 174, 3) := by decide +kernel
theorem dX4_save_39 : decode cX4_save 39 = .ok (.ireturn, 1) := by decide +kernel
set_option maxRecDepth 20000 in
theorem ggX4_restore_X4_isWithin : GoodIn wsX4_restore wsX4_isWithin := goodIn_r _ [9] (by decide +kernel) (by decide +kernel)
set_option maxRecDepth 20000 in
theorem gX4_restore_X4_isWithin : GoodIn wsX4_restore (va_wsS RX4 49 yX4_isWithin wsX4_isWithin) := goodIn_app (goodIn_of _ (by decide +kernel)) ggX4_restore_X4_isWithin
set_option maxRecDepth 20000 in
theorem ggX4_restore_X0_keep : GoodIn wsX4_restore wsX0_keep := goodIn_r _ [14, 15, 16, 17, 18, 19, 20, 21, 22, 23, 24, 25, 26, 27, 28, 29, 30, 31, 32, 33, 34, 35, 36, 37, 38, 39, 40, 41, 42, 8, 43, 44, 45, 46, 47, 48, 71, 72, 73, 56, 57, 58, 59, 60, 61, 62, 63, 64, 65, 66, 67, 68, 69, 70] (by decide +kernel) (by decide +kernel)
set_option maxRecDepth 20000 in
theorem gX4_restore_X0_keep : GoodIn wsX4_restore (wsV RX4 59 RX0 yX0_keep wsX0_keep) := goodIn_app (goodIn_of _ (by decide +kernel)) ggX4_restore_X0_keep
set_option maxRecDepth 20000 in
theorem ggX4_restore_X3_become : GoodIn wsX4_restore wsX3_become := goodIn_r _ [26, 27, 28, 29, 30, 31, 32, 33, 34, 35, 36, 37, 38, 39, 40, 41, 42, 8, 43, 44, 19, 20, 21, 45, 46, 47, 48, 56, 57, 58, 59, 60, 61, 62, 63, 64, 65, 66, 67, 68, 69, 70] (by decide +kernel) (by decide +kernel)
set_option maxRecDepth 20000 in
theorem gX4_restore_X3_become : GoodIn wsX4_restore (wsV RX4 202 RX3 yX3_become wsX3_become) := goodIn_app (goodIn_of _ (by decide +kernel)) ggX4_restore_X3_become
theorem dX4_restore_0 : decode cX4_restore 0 = .ok (.iload_n 1, 1) := by decide +kernel
theorem dX4_restore_1 : decode cX4_restore 1 = .ok (.iconst 0, 1) := by decide +kernel
theorem dX4_restore_2 : decode cX4_restore 2 = .ok (.iconst 1, 1) := by decide +kernel
theorem dX4_restore_3 : decode cX4_restore 3 = .ok (.invokestatic 49, 3) := by decide +kernel
theorem dX4_restore_6 : decode cX4_restore 6 = .ok (.ifCond .ne 6, 3) := by decide +kernel
theorem dX4_restore_9 : decode cX4_restore 9 = .ok (.bipush (-2), 2) := by decide +kernel
theorem dX4_restore_11 : decode cX4_restore 11 = .ok (.ireturn, 1) := by decide +kernel
theorem dX4_restore_12 : decode cX4_restore 12 = .ok (.aload_n 0, 1) := by decide +kernel
theorem dX4_restore_13 : decode cX4_restore 13 = .ok (.getfield 27, 3) := by decide +kernel
theorem dX4_restore_16 : decode cX4_restore 16 = .ok (.iload_n 1, 1) := by decide +kernel
theorem dX4_restore_17 : decode cX4_restore 17 = .ok (.baload, 1) := by decide +kernel
theorem dX4_restore_18 : decode cX4_restore 18 = .ok (.ifCond .ne 6, 3) := by decide +kernel
theorem dX4_restore_21 : decode cX4_restore 21 = .ok (.bipush (-5), 2) := by decide +kernel
theorem dX4_restore_23 : decode cX4_restore 23 = .ok (.ireturn, 1) := by decide +kernel
theorem dX4_restore_24 : decode cX4_restore 24 = .ok (.aload_n 0, 1) := by decide +kernel
theorem dX4_restore_25 : decode cX4_restore 25 = .ok (.getfield 19, 3) := by decide +kernel
theorem dX4_restore_28 : decode cX4_restore 28 = .ok (.aload_n 0, 1) := by decide +kernel
theorem dX4_restore_29 : decode cX4_restore 29 = .ok (.getfield 10, 3) := by decide +kernel
theorem dX4_restore_32 : decode cX4_restore 32 = .ok (.invokevirtual 59, 3) := by decide +kernel
theorem dX4_restore_35 : decode cX4_restore 35 = .ok (.aload_n 0, 1) := by decide +kernel
theorem dX4_restore_36 : decode cX4_restore 36 = .ok (.getfield 10, 3) := by decide +kernel
theorem dX4_restore_39 : decode cX4_restore 39 = .ok (.aload_n 0, 1) := by decide +kernel
theorem dX4_restore_40 : decode cX4_restore 40 = .ok (.getfield 23, 3) := by decide +kernel
theorem dX4_restore_43 : decode cX4_restore 43 = .ok (.iload_n 1, 1) := by decide +kernel
theorem dX4_restore_44 : decode cX4_restore 44 = .ok (.aaload, 1) := by decide +kernel
theorem dX4_restore_45 : decode cX4_restore 45 = .ok (.invokevirtual 202, 3) := by decide +kernel
theorem dX4_restore_48 : decode cX4_restore 48 = .ok (.aload_n 0, 1) := by decide +kernel
theorem dX4_restore_49 : decode cX4_restore 49 = .ok (.getfield 10, 3) := by decide +kernel
theorem dX4_restore_52 : decode cX4_restore 52 = .ok (.getfield 174, 3) := by decide +kernel
theorem dX4_restore_55 : decode cX4_restore 55 = .ok (.ireturn, 1) := by decide +kernel
set_option maxRecDepth 20000 in
theorem ggX4_offerError_X4_isPupil : GoodIn wsX4_offerError wsX4_isPupil := goodIn_r _ [5, 6, 7, 4, 8] (by decide +kernel) (by decide +kernel)
set_option maxRecDepth 20000 in
theorem gX4_offerError_X4_isPupil : GoodIn wsX4_offerError (va_wsS RX4 88 yX4_isPupil wsX4_isPupil) := goodIn_app (goodIn_of _ (by decide +kernel)) ggX4_offerError_X4_isPupil
set_option maxRecDepth 20000 in
theorem ggX4_offerError_X3_hasExcuse : GoodIn wsX4_offerError wsX3_hasExcuse := goodIn_r _ [13, 14, 21, 22, 23, 24, 25, 26, 27, 28, 29, 30, 31, 32, 33, 34, 35] (by decide +kernel) (by decide +kernel)
set_option maxRecDepth 20000 in
theorem gX4_offerError_X3_hasExcuse : GoodIn wsX4_offerError (wsV RX4 74 RX3 yX3_hasExcuse wsX3_hasExcuse) := goodIn_app (goodIn_of _ (by decide +kernel)) ggX4_offerError_X3_hasExcuse
set_option maxRecDepth 20000 in
theorem ggX4_offerError_X4_isWithin : GoodIn wsX4_offerError wsX4_isWithin := goodIn_r _ [8] (by decide +kernel) (by decide +kernel)
set_option maxRecDepth 20000 in
theorem gX4_offerError_X4_isWithin : GoodIn wsX4_offerError (va_wsS RX4 49 yX4_isWithin wsX4_isWithin) := goodIn_app (goodIn_of _ (by decide +kernel)) ggX4_offerError_X4_isWithin
theorem dX4_offerError_0 : decode cX4_offerError 0 = .ok (.iload_n 1, 1) := by decide +kernel
theorem dX4_offerError_1 : decode cX4_offerError 1 = .ok (.invokestatic 88, 3) := by decide +kernel
theorem dX4_offerError_4 : decode cX4_offerError 4 = .ok (.ifCond .eq 14, 3) := by decide +kernel
theorem dX4_offerError_7 : decode cX4_offerError 7 = .ok (.aload_n 0, 1) := by decide +kernel
theorem dX4_offerError_8 : decode cX4_offerError 8 = .ok (.getfield 10, 3) := by decide +kernel
theorem dX4_offerError_11 : decode cX4_offerError 11 = .ok (.iload_n 2, 1) := by decide +kernel
theorem dX4_offerError_12 : decode cX4_offerError 12 = .ok (.invokevirtual 74, 3) := by decide +kernel
theorem dX4_offerError_15 : decode cX4_offerError 15 = .ok (.ifCond .ne 5, 3) := by decide +kernel
theorem dX4_offerError_18 : decode cX4_offerError 18 = .ok (.iconst (-1), 1) := by decide +kernel
theorem dX4_offerError_19 : decode cX4_offerError 19 = .ok (.ireturn, 1) := by decide +kernel
theorem dX4_offerError_20 : decode cX4_offerError 20 = .ok (.iload_n 3, 1) := by decide +kernel
theorem dX4_offerError_21 : decode cX4_offerError 21 = .ok (.bipush (-6), 2) := by decide +kernel
theorem dX4_offerError_23 : decode cX4_offerError 23 = .ok (.if_icmp .eq 12, 3) := by decide +kernel
theorem dX4_offerError_26 : decode cX4_offerError 26 = .ok (.iload_n 3, 1) := by decide +kernel
theorem dX4_offerError_27 : decode cX4_offerError 27 = .ok (.invokestatic 88, 3) := by decide +kernel
theorem dX4_offerError_30 : decode cX4_offerError 30 = .ok (.ifCond .ne 5, 3) := by decide +kernel
theorem dX4_offerError_33 : decode cX4_offerError 33 = .ok (.iconst (-1), 1) := by decide +kernel
theorem dX4_offerError_34 : decode cX4_offerError 34 = .ok (.ireturn, 1) := by decide +kernel
theorem dX4_offerError_35 : decode cX4_offerError 35 = .ok (.iload 4, 2) := by decide +kernel
theorem dX4_offerError_37 : decode cX4_offerError 37 = .ok (.iconst 1, 1) := by decide +kernel
theorem dX4_offerError_38 : decode cX4_offerError 38 = .ok (.bipush 99, 2) := by decide +kernel
theorem dX4_offerError_40 : decode cX4_offerError 40 = .ok (.invokestatic 49, 3) := by decide +kernel
theorem dX4_offerError_43 : decode cX4_offerError 43 = .ok (.ifCond .eq 8, 3) := by decide +kernel
theorem dX4_offerError_46 : decode cX4_offerError 46 = .ok (.iload_n 3, 1) := by decide +kernel
theorem dX4_offerError_47 : decode cX4_offerError 47 = .ok (.iload_n 1, 1) := by decide +kernel
theorem dX4_offerError_48 : decode cX4_offerError 48 = .ok (.if_icmp .ne 6, 3) := by decide +kernel
theorem dX4_offerError_51 : decode cX4_offerError 51 = .ok (.bipush (-2), 2) := by decide +kernel
theorem dX4_offerError_53 : decode cX4_offerError 53 = .ok (.ireturn, 1) := by decide +kernel
theorem dX4_offerError_54 : decode cX4_offerError 54 = .ok (.iconst 0, 1) := by decide +kernel
theorem dX4_offerError_55 : decode cX4_offerError 55 = .ok (.ireturn, 1) := by decide +kernel
set_option maxRecDepth 20000 in
theorem ggX4_stampsForWhatWasRead_X3_hasExcuse : GoodIn wsX4_stampsForWhatWasRead wsX3_hasExcuse := goodIn_r _ [11, 12, 94, 95, 96, 97, 98, 99, 100, 101, 102, 103, 104, 105, 106, 107, 108] (by decide +kernel) (by decide +kernel)
set_option maxRecDepth 20000 in
theorem gX4_stampsForWhatWasRead_X3_hasExcuse : GoodIn wsX4_stampsForWhatWasRead (wsV RX4 74 RX3 yX3_hasExcuse wsX3_hasExcuse) := goodIn_app (goodIn_of _ (by decide +kernel)) ggX4_stampsForWhatWasRead_X3_hasExcuse
set_option maxRecDepth 20000 in
theorem ggX4_stampsForWhatWasRead_X3_takeOffer : GoodIn wsX4_stampsForWhatWasRead wsX3_takeOffer := goodIn_r _ [16, 17, 18, 19, 20, 21, 10, 22, 23, 24, 25, 26, 27, 28, 29, 30, 31, 32, 33, 34, 35, 36, 37, 38, 39, 40, 41, 42, 43, 44, 45, 46, 47, 48, 49, 50, 51, 52, 53, 54, 55, 56, 57, 58, 59, 60, 61, 62, 63, 64, 65, 66, 67, 68, 69, 70, 71, 72, 73, 74, 75, 76, 77, 78, 79, 80, 81, 82, 94, 95, 96, 97, 98, 99, 100, 101, 102, 103, 104, 105, 106, 107, 108] (by decide +kernel) (by decide +kernel)
set_option maxRecDepth 20000 in
theorem gX4_stampsForWhatWasRead_X3_takeOffer : GoodIn wsX4_stampsForWhatWasRead (wsV RX4 85 RX3 yX3_takeOffer wsX3_takeOffer) := goodIn_app (goodIn_of _ (by decide +kernel)) ggX4_stampsForWhatWasRead_X3_takeOffer
theorem dX4_stampsForWhatWasRead_0 : decode cX4_stampsForWhatWasRead 0 = .ok (.aload_n 0, 1) := by decide +kernel
theorem dX4_stampsForWhatWasRead_1 : decode cX4_stampsForWhatWasRead 1 = .ok (.getfield 10, 3) := by decide +kernel
theorem dX4_stampsForWhatWasRead_4 : decode cX4_stampsForWhatWasRead 4 = .ok (.aload_n 0, 1) := by decide +kernel
theorem dX4_stampsForWhatWasRead_5 : decode cX4_stampsForWhatWasRead 5 = .ok (.getfield 41, 3) := by decide +kernel
theorem dX4_stampsForWhatWasRead_8 : decode cX4_stampsForWhatWasRead 8 = .ok (.getfield 205, 3) := by decide +kernel
theorem dX4_stampsForWhatWasRead_11 : decode cX4_stampsForWhatWasRead 11 = .ok (.invokevirtual 74, 3) := by decide +kernel
theorem dX4_stampsForWhatWasRead_14 : decode cX4_stampsForWhatWasRead 14 = .ok (.ifCond .ne 5, 3) := by decide +kernel
theorem dX4_stampsForWhatWasRead_17 : decode cX4_stampsForWhatWasRead 17 = .ok (.iconst 0, 1) := by decide +kernel
theorem dX4_stampsForWhatWasRead_18 : decode cX4_stampsForWhatWasRead 18 = .ok (.ireturn, 1) := by decide +kernel
theorem dX4_stampsForWhatWasRead_19 : decode cX4_stampsForWhatWasRead 19 = .ok (.aload_n 0, 1) := by decide +kernel
theorem dX4_stampsForWhatWasRead_20 : decode cX4_stampsForWhatWasRead 20 = .ok (.getfield 10, 3) := by decide +kernel
theorem dX4_stampsForWhatWasRead_23 : decode cX4_stampsForWhatWasRead 23 = .ok (.aload_n 0, 1) := by decide +kernel
theorem dX4_stampsForWhatWasRead_24 : decode cX4_stampsForWhatWasRead 24 = .ok (.getfield 41, 3) := by decide +kernel
theorem dX4_stampsForWhatWasRead_27 : decode cX4_stampsForWhatWasRead 27 = .ok (.getfield 208, 3) := by decide +kernel
theorem dX4_stampsForWhatWasRead_30 : decode cX4_stampsForWhatWasRead 30 = .ok (.aload_n 0, 1) := by decide +kernel
theorem dX4_stampsForWhatWasRead_31 : decode cX4_stampsForWhatWasRead 31 = .ok (.getfield 41, 3) := by decide +kernel
theorem dX4_stampsForWhatWasRead_34 : decode cX4_stampsForWhatWasRead 34 = .ok (.getfield 205, 3) := by decide +kernel
theorem dX4_stampsForWhatWasRead_37 : decode cX4_stampsForWhatWasRead 37 = .ok (.aload_n 0, 1) := by decide +kernel
theorem dX4_stampsForWhatWasRead_38 : decode cX4_stampsForWhatWasRead 38 = .ok (.getfield 41, 3) := by decide +kernel
theorem dX4_stampsForWhatWasRead_41 : decode cX4_stampsForWhatWasRead 41 = .ok (.getfield 211, 3) := by decide +kernel
theorem dX4_stampsForWhatWasRead_44 : decode cX4_stampsForWhatWasRead 44 = .ok (.aload_n 0, 1) := by decide +kernel
theorem dX4_stampsForWhatWasRead_45 : decode cX4_stampsForWhatWasRead 45 = .ok (.getfield 41, 3) := by decide +kernel
theorem dX4_stampsForWhatWasRead_48 : decode cX4_stampsForWhatWasRead 48 = .ok (.getfield 214, 3) := by decide +kernel
theorem dX4_stampsForWhatWasRead_51 : decode cX4_stampsForWhatWasRead 51 = .ok (.invokevirtual 85, 3) := by decide +kernel
theorem dX4_stampsForWhatWasRead_54 : decode cX4_stampsForWhatWasRead 54 = .ok (.istore_n 1, 1) := by decide +kernel
theorem dX4_stampsForWhatWasRead_55 : decode cX4_stampsForWhatWasRead 55 = .ok (.iload_n 1, 1) := by decide +kernel
theorem dX4_stampsForWhatWasRead_56 : decode cX4_stampsForWhatWasRead 56 = .ok (.ifCond .ne 7, 3) := by decide +kernel
theorem dX4_stampsForWhatWasRead_59 : decode cX4_stampsForWhatWasRead 59 = .ok (.iconst 1, 1) := by decide +kernel
theorem dX4_stampsForWhatWasRead_60 : decode cX4_stampsForWhatWasRead 60 = .ok (.goto 4, 3) := by decide +kernel
theorem dX4_stampsForWhatWasRead_63 : decode cX4_stampsForWhatWasRead 63 = .ok (.iconst 0, 1) := by decide +kernel
theorem dX4_stampsForWhatWasRead_64 : decode cX4_stampsForWhatWasRead 64 = .ok (.ireturn, 1) := by decide +kernel
set_option maxRecDepth 20000 in
theorem ggX4_isPupil_X4_isWithin : GoodIn wsX4_isPupil wsX4_isWithin := goodIn_r _ [4] (by decide +kernel) (by decide +kernel)
set_option maxRecDepth 20000 in
theorem gX4_isPupil_X4_isWithin : GoodIn wsX4_isPupil (va_wsS RX4 49 yX4_isWithin wsX4_isWithin) := goodIn_app (goodIn_of _ (by decide +kernel)) ggX4_isPupil_X4_isWithin
theorem dX4_isPupil_0 : decode cX4_isPupil 0 = .ok (.iload_n 0, 1) := by decide +kernel
theorem dX4_isPupil_1 : decode cX4_isPupil 1 = .ok (.iconst 0, 1) := by decide +kernel
theorem dX4_isPupil_2 : decode cX4_isPupil 2 = .ok (.bipush 9, 2) := by decide +kernel
theorem dX4_isPupil_4 : decode cX4_isPupil 4 = .ok (.invokestatic 49, 3) := by decide +kernel
theorem dX4_isPupil_7 : decode cX4_isPupil 7 = .ok (.ireturn, 1) := by decide +kernel
theorem dX4_isWithin_0 : decode cX4_isWithin 0 = .ok (.iload_n 0, 1) := by decide +kernel
theorem dX4_isWithin_1 : decode cX4_isWithin 1 = .ok (.iload_n 1, 1) := by decide +kernel
theorem dX4_isWithin_2 : decode cX4_isWithin 2 = .ok (.if_icmp .lt 12, 3) := by decide +kernel
theorem dX4_isWithin_5 : decode cX4_isWithin 5 = .ok (.iload_n 0, 1) := by decide +kernel
theorem dX4_isWithin_6 : decode cX4_isWithin 6 = .ok (.iload_n 2, 1) := by decide +kernel
theorem dX4_isWithin_7 : decode cX4_isWithin 7 = .ok (.if_icmp .gt 7, 3) := by decide +kernel
theorem dX4_isWithin_10 : decode cX4_isWithin 10 = .ok (.iconst 1, 1) := by decide +kernel
theorem dX4_isWithin_11 : decode cX4_isWithin 11 = .ok (.goto 4, 3) := by decide +kernel
theorem dX4_isWithin_14 : decode cX4_isWithin 14 = .ok (.iconst 0, 1) := by decide +kernel
theorem dX4_isWithin_15 : decode cX4_isWithin 15 = .ok (.ireturn, 1) := by decide +kernel
theorem dX4_classOf_0 : decode cX4_classOf 0 = .ok (.iload_n 0, 1) := by decide +kernel
theorem dX4_classOf_1 : decode cX4_classOf 1 = .ok (.iconst 2, 1) := by decide +kernel
theorem dX4_classOf_2 : decode cX4_classOf 2 = .ok (.idiv, 1) := by decide +kernel
theorem dX4_classOf_3 : decode cX4_classOf 3 = .ok (.ireturn, 1) := by decide +kernel
theorem dX4_sum_0 : decode cX4_sum 0 = .ok (.iconst 0, 1) := by decide +kernel
theorem dX4_sum_1 : decode cX4_sum 1 = .ok (.istore_n 1, 1) := by decide +kernel
theorem dX4_sum_2 : decode cX4_sum 2 = .ok (.iconst 0, 1) := by decide +kernel
theorem dX4_sum_3 : decode cX4_sum 3 = .ok (.istore_n 2, 1) := by decide +kernel
theorem dX4_sum_4 : decode cX4_sum 4 = .ok (.iload_n 2, 1) := by decide +kernel
theorem dX4_sum_5 : decode cX4_sum 5 = .ok (.aload_n 0, 1) := by decide +kernel
theorem dX4_sum_6 : decode cX4_sum 6 = .ok (.arraylength, 1) := by decide +kernel
theorem dX4_sum_7 : decode cX4_sum 7 = .ok (.if_icmp .ge 15, 3) := by decide +kernel
theorem dX4_sum_10 : decode cX4_sum 10 = .ok (.iload_n 1, 1) := by decide +kernel
theorem dX4_sum_11 : decode cX4_sum 11 = .ok (.aload_n 0, 1) := by decide +kernel
theorem dX4_sum_12 : decode cX4_sum 12 = .ok (.iload_n 2, 1) := by decide +kernel
theorem dX4_sum_13 : decode cX4_sum 13 = .ok (.iaload, 1) := by decide +kernel
theorem dX4_sum_14 : decode cX4_sum 14 = .ok (.iadd, 1) := by decide +kernel
theorem dX4_sum_15 : decode cX4_sum 15 = .ok (.istore_n 1, 1) := by decide +kernel
theorem dX4_sum_16 : decode cX4_sum 16 = .ok (.iinc 2 1, 3) := by decide +kernel
theorem dX4_sum_19 : decode cX4_sum 19 = .ok (.goto (-15), 3) := by decide +kernel
theorem dX4_sum_22 : decode cX4_sum 22 = .ok (.iload_n 1, 1) := by decide +kernel
theorem dX4_sum_23 : decode cX4_sum 23 = .ok (.ireturn, 1) := by decide +kernel
theorem dX4_copy_0 : decode cX4_copy 0 = .ok (.aload_n 0, 1) := by decide +kernel
theorem dX4_copy_1 : decode cX4_copy 1 = .ok (.iconst 0, 1) := by decide +kernel
theorem dX4_copy_2 : decode cX4_copy 2 = .ok (.aload_n 1, 1) := by decide +kernel
theorem dX4_copy_3 : decode cX4_copy 3 = .ok (.iconst 0, 1) := by decide +kernel
theorem dX4_copy_4 : decode cX4_copy 4 = .ok (.aload_n 0, 1) := by decide +kernel
theorem dX4_copy_5 : decode cX4_copy 5 = .ok (.arraylength, 1) := by decide +kernel
theorem dX4_copy_6 : decode cX4_copy 6 = .ok (.aload_n 1, 1) := by decide +kernel
theorem dX4_copy_7 : decode cX4_copy 7 = .ok (.arraylength, 1) := by decide +kernel
theorem dX4_copy_8 : decode cX4_copy 8 = .ok (.invokestatic 217, 3) := by decide +kernel
theorem dX4_copy_11 : decode cX4_copy 11 = .ok (.invokestatic 222, 3) := by decide +kernel
theorem dX4_copy_14 : decode cX4_copy 14 = .ok (.return_, 1) := by decide +kernel
theorem dJ9_max_7cf53_0 : decode cJ9_max_7cf53 0 = .ok (.iload_n 0, 1) := by decide +kernel
theorem dJ9_max_7cf53_1 : decode cJ9_max_7cf53 1 = .ok (.iload_n 1, 1) := by decide +kernel
theorem dJ9_max_7cf53_2 : decode cJ9_max_7cf53 2 = .ok (.if_icmp .lt 7, 3) := by decide +kernel
theorem dJ9_max_7cf53_5 : decode cJ9_max_7cf53 5 = .ok (.iload_n 0, 1) := by decide +kernel
theorem dJ9_max_7cf53_6 : decode cJ9_max_7cf53 6 = .ok (.goto 4, 3) := by decide +kernel
theorem dJ9_max_7cf53_9 : decode cJ9_max_7cf53 9 = .ok (.iload_n 1, 1) := by decide +kernel
theorem dJ9_max_7cf53_10 : decode cJ9_max_7cf53 10 = .ok (.ireturn, 1) := by decide +kernel
theorem dJ9_min_7cf53_0 : decode cJ9_min_7cf53 0 = .ok (.iload_n 0, 1) := by decide +kernel
theorem dJ9_min_7cf53_1 : decode cJ9_min_7cf53 1 = .ok (.iload_n 1, 1) := by decide +kernel
theorem dJ9_min_7cf53_2 : decode cJ9_min_7cf53 2 = .ok (.if_icmp .gt 7, 3) := by decide +kernel
theorem dJ9_min_7cf53_5 : decode cJ9_min_7cf53 5 = .ok (.iload_n 0, 1) := by decide +kernel
theorem dJ9_min_7cf53_6 : decode cJ9_min_7cf53 6 = .ok (.goto 4, 3) := by decide +kernel
theorem dJ9_min_7cf53_9 : decode cJ9_min_7cf53 9 = .ok (.iload_n 1, 1) := by decide +kernel
theorem dJ9_min_7cf53_10 : decode cJ9_min_7cf53 10 = .ok (.ireturn, 1) := by decide +kernel
end
section
theorem dL_cell_0 : decode cL_cell 0 = .ok (.iload_n 1, 1) := by decide +kernel
theorem dL_cell_1 : decode cL_cell 1 = .ok (.aload_n 0, 1) := by decide +kernel
theorem dL_cell_2 : decode cL_cell 2 = .ok (.arraylength, 1) := by decide +kernel
theorem dL_cell_3 : decode cL_cell 3 = .ok (.if_icmp .ge 9, 3) := by decide +kernel
theorem dL_cell_6 : decode cL_cell 6 = .ok (.aload_n 0, 1) := by decide +kernel
theorem dL_cell_7 : decode cL_cell 7 = .ok (.iload_n 1, 1) := by decide +kernel
theorem dL_cell_8 : decode cL_cell 8 = .ok (.iaload, 1) := by decide +kernel
theorem dL_cell_9 : decode cL_cell 9 = .ok (.goto 14, 3) := by decide +kernel
theorem dL_cell_12 : decode cL_cell 12 = .ok (.ldc 7, 2) := by decide +kernel
theorem dL_cell_14 : decode cL_cell 14 = .ok (.iload_n 1, 1) := by decide +kernel
theorem dL_cell_15 : decode cL_cell 15 = .ok (.sipush 439, 3) := by decide +kernel
theorem dL_cell_18 : decode cL_cell 18 = .ok (.iadd, 1) := by decide +kernel
theorem dL_cell_19 : decode cL_cell 19 = .ok (.imul, 1) := by decide +kernel
theorem dL_cell_20 : decode cL_cell 20 = .ok (.ldc 8, 2) := by decide +kernel
theorem dL_cell_22 : decode cL_cell 22 = .ok (.iadd, 1) := by decide +kernel
theorem dL_cell_23 : decode cL_cell 23 = .ok (.ldc 9, 2) := by decide +kernel
theorem dL_cell_25 : decode cL_cell 25 = .ok (.iand, 1) := by decide +kernel
theorem dL_cell_26 : decode cL_cell 26 = .ok (.ireturn, 1) := by decide +kernel
theorem dL_size_0 : decode cL_size 0 = .ok (.iconst 0, 1) := by decide +kernel
theorem dL_size_1 : decode cL_size 1 = .ok (.istore_n 1, 1) := by decide +kernel
theorem dL_size_2 : decode cL_size 2 = .ok (.iload_n 0, 1) := by decide +kernel
theorem dL_size_3 : decode cL_size 3 = .ok (.istore_n 2, 1) := by decide +kernel
theorem dL_size_4 : decode cL_size 4 = .ok (.iload_n 2, 1) := by decide +kernel
theorem dL_size_5 : decode cL_size 5 = .ok (.ifCond .eq 15, 3) := by decide +kernel
theorem dL_size_8 : decode cL_size 8 = .ok (.iinc 1 1, 3) := by decide +kernel
theorem dL_size_11 : decode cL_size 11 = .ok (.iload_n 2, 1) := by decide +kernel
theorem dL_size_12 : decode cL_size 12 = .ok (.iload_n 2, 1) := by decide +kernel
theorem dL_size_13 : decode cL_size 13 = .ok (.iconst 1, 1) := by decide +kernel
theorem dL_size_14 : decode cL_size 14 = .ok (.isub, 1) := by decide +kernel
theorem dL_size_15 : decode cL_size 15 = .ok (.iand, 1) := by decide +kernel
theorem dL_size_16 : decode cL_size 16 = .ok (.istore_n 2, 1) := by decide +kernel
theorem dL_size_17 : decode cL_size 17 = .ok (.goto (-13), 3) := by decide +kernel
theorem dL_size_20 : decode cL_size 20 = .ok (.iload_n 1, 1) := by decide +kernel
theorem dL_size_21 : decode cL_size 21 = .ok (.ireturn, 1) := by decide +kernel
set_option maxRecDepth 20000 in
theorem ggL_seen_X4_count : GoodIn wsL_seen wsX4_count := goodIn_r _ [7, 8, 9, 10, 11, 12, 13, 14, 15, 16, 17, 18, 19, 20, 21, 22, 23, 24, 6, 25, 26, 27, 28, 29, 30, 31, 32, 33, 34, 35, 36, 37, 38, 39, 40, 41, 42, 43, 44, 45, 46, 47, 48, 49, 50, 51, 52, 53, 54, 55, 56, 57, 58, 98, 99, 100, 101, 102, 103, 104, 105, 106, 107, 108, 109, 110, 111, 112, 113, 114, 115, 116, 117, 118, 119, 120, 121, 122, 123] (by decide +kernel) (by decide +kernel)
set_option maxRecDepth 20000 in
theorem gL_seen_X4_count : GoodIn wsL_seen (wsV RL 14 RX4 yX4_count wsX4_count) := goodIn_app (goodIn_of _ (by decide +kernel)) ggL_seen_X4_count
set_option maxRecDepth 20000 in
theorem ggL_seen_X4_pupil : GoodIn wsL_seen wsX4_pupil := goodIn_r _ [62, 9, 17, 14, 12, 63, 64, 18, 15, 65, 66, 6, 67, 23, 24, 25, 68, 69, 70, 32, 71, 72, 73, 74, 75, 52, 76, 53, 54, 98, 99, 100, 101, 102, 103, 104, 105, 106, 107, 108, 109, 110, 111, 112, 113, 114, 115, 116, 117, 118] (by decide +kernel) (by decide +kernel)
set_option maxRecDepth 20000 in
theorem gL_seen_X4_pupil : GoodIn wsL_seen (wsV RL 20 RX4 yX4_pupil wsX4_pupil) := goodIn_app (goodIn_of _ (by decide +kernel)) ggL_seen_X4_pupil
set_option maxRecDepth 20000 in
theorem ggL_seen_X4_excuse : GoodIn wsL_seen wsX4_excuse := goodIn_r _ [80, 9, 81, 82, 83, 84, 85, 86, 32, 87, 34, 88, 49, 50, 51, 52, 89, 90, 91, 92, 72, 73, 74, 75, 98, 99, 100, 101, 102, 103, 104, 105, 106, 107, 108, 109, 110, 111, 112, 113, 114, 115, 116, 117, 118] (by decide +kernel) (by decide +kernel)
set_option maxRecDepth 20000 in
theorem gL_seen_X4_excuse : GoodIn wsL_seen (wsV RL 24 RX4 yX4_excuse wsX4_excuse) := goodIn_app (goodIn_of _ (by decide +kernel)) ggL_seen_X4_excuse
set_option maxRecDepth 20000 in
theorem ggL_seen_X4_novelty : GoodIn wsL_seen wsX4_novelty := goodIn_r _ [96, 9, 65, 66, 6, 67, 23, 24, 25, 84, 85, 86, 32, 87, 34, 97, 40, 41, 42, 43, 44, 45, 46, 47, 48, 49, 50, 51, 52, 53, 54, 55, 56, 57, 58, 98, 99, 100, 101, 102, 103, 104, 105, 106, 107, 108, 109, 110, 111, 112, 113, 114, 115, 116, 117, 118] (by decide +kernel) (by decide +kernel)
set_option maxRecDepth 20000 in
theorem gL_seen_X4_novelty : GoodIn wsL_seen (wsV RL 27 RX4 yX4_novelty wsX4_novelty) := goodIn_app (goodIn_of _ (by decide +kernel)) ggL_seen_X4_novelty
theorem dL_seen_0 : decode cL_seen 0 = .ok (.ldc2_w 10, 3) := by decide +kernel
theorem dL_seen_3 : decode cL_seen 3 = .ok (.lstore_n 1, 1) := by decide +kernel
theorem dL_seen_4 : decode cL_seen 4 = .ok (.iconst 0, 1) := by decide +kernel
theorem dL_seen_5 : decode cL_seen 5 = .ok (.istore_n 3, 1) := by decide +kernel
theorem dL_seen_6 : decode cL_seen 6 = .ok (.iload_n 3, 1) := by decide +kernel
theorem dL_seen_7 : decode cL_seen 7 = .ok (.bipush 18, 2) := by decide +kernel
theorem dL_seen_9 : decode cL_seen 9 = .ok (.if_icmp .ge 22, 3) := by decide +kernel
theorem dL_seen_12 : decode cL_seen 12 = .ok (.ldc2_w 12, 3) := by decide +kernel
theorem dL_seen_15 : decode cL_seen 15 = .ok (.lload_n 1, 1) := by decide +kernel
theorem dL_seen_16 : decode cL_seen 16 = .ok (.lmul, 1) := by decide +kernel
theorem dL_seen_17 : decode cL_seen 17 = .ok (.aload_n 0, 1) := by decide +kernel
theorem dL_seen_18 : decode cL_seen 18 = .ok (.iload_n 3, 1) := by decide +kernel
theorem dL_seen_19 : decode cL_seen 19 = .ok (.invokevirtual 14, 3) := by decide +kernel
theorem dL_seen_22 : decode cL_seen 22 = .ok (.i2l, 1) := by decide +kernel
theorem dL_seen_23 : decode cL_seen 23 = .ok (.ladd, 1) := by decide +kernel
theorem dL_seen_24 : decode cL_seen 24 = .ok (.lstore_n 1, 1) := by decide +kernel
theorem dL_seen_25 : decode cL_seen 25 = .ok (.iinc 3 1, 3) := by decide +kernel
theorem dL_seen_28 : decode cL_seen 28 = .ok (.goto (-22), 3) := by decide +kernel
theorem dL_seen_31 : decode cL_seen 31 = .ok (.iconst 0, 1) := by decide +kernel
theorem dL_seen_32 : decode cL_seen 32 = .ok (.istore_n 3, 1) := by decide +kernel
theorem dL_seen_33 : decode cL_seen 33 = .ok (.iload_n 3, 1) := by decide +kernel
theorem dL_seen_34 : decode cL_seen 34 = .ok (.bipush 80, 2) := by decide +kernel
theorem dL_seen_36 : decode cL_seen 36 = .ok (.if_icmp .ge 46, 3) := by decide +kernel
theorem dL_seen_39 : decode cL_seen 39 = .ok (.ldc2_w 12, 3) := by decide +kernel
theorem dL_seen_42 : decode cL_seen 42 = .ok (.ldc2_w 12, 3) := by decide +kernel
theorem dL_seen_45 : decode cL_seen 45 = .ok (.lload_n 1, 1) := by decide +kernel
theorem dL_seen_46 : decode cL_seen 46 = .ok (.lmul, 1) := by decide +kernel
theorem dL_seen_47 : decode cL_seen 47 = .ok (.aload_n 0, 1) := by decide +kernel
theorem dL_seen_48 : decode cL_seen 48 = .ok (.iload_n 3, 1) := by decide +kernel
theorem dL_seen_49 : decode cL_seen 49 = .ok (.bipush 8, 2) := by decide +kernel
theorem dL_seen_51 : decode cL_seen 51 = .ok (.idiv, 1) := by decide +kernel
theorem dL_seen_52 : decode cL_seen 52 = .ok (.iload_n 3, 1) := by decide +kernel
theorem dL_seen_53 : decode cL_seen 53 = .ok (.bipush 8, 2) := by decide +kernel
theorem dL_seen_55 : decode cL_seen 55 = .ok (.irem, 1) := by decide +kernel
theorem dL_seen_56 : decode cL_seen 56 = .ok (.invokevirtual 20, 3) := by decide +kernel
theorem dL_seen_59 : decode cL_seen 59 = .ok (.i2l, 1) := by decide +kernel
theorem dL_seen_60 : decode cL_seen 60 = .ok (.ladd, 1) := by decide +kernel
theorem dL_seen_61 : decode cL_seen 61 = .ok (.lmul, 1) := by decide +kernel
theorem dL_seen_62 : decode cL_seen 62 = .ok (.aload_n 0, 1) := by decide +kernel
theorem dL_seen_63 : decode cL_seen 63 = .ok (.iload_n 3, 1) := by decide +kernel
theorem dL_seen_64 : decode cL_seen 64 = .ok (.bipush 6, 2) := by decide +kernel
theorem dL_seen_66 : decode cL_seen 66 = .ok (.idiv, 1) := by decide +kernel
theorem dL_seen_67 : decode cL_seen 67 = .ok (.iload_n 3, 1) := by decide +kernel
theorem dL_seen_68 : decode cL_seen 68 = .ok (.iconst 5, 1) := by decide +kernel
theorem dL_seen_69 : decode cL_seen 69 = .ok (.irem, 1) := by decide +kernel
theorem dL_seen_70 : decode cL_seen 70 = .ok (.invokevirtual 24, 3) := by decide +kernel
theorem dL_seen_73 : decode cL_seen 73 = .ok (.i2l, 1) := by decide +kernel
theorem dL_seen_74 : decode cL_seen 74 = .ok (.ladd, 1) := by decide +kernel
theorem dL_seen_75 : decode cL_seen 75 = .ok (.lstore_n 1, 1) := by decide +kernel
theorem dL_seen_76 : decode cL_seen 76 = .ok (.iinc 3 1, 3) := by decide +kernel
theorem dL_seen_79 : decode cL_seen 79 = .ok (.goto (-46), 3) := by decide +kernel
theorem dL_seen_82 : decode cL_seen 82 = .ok (.iconst 0, 1) := by decide +kernel
theorem dL_seen_83 : decode cL_seen 83 = .ok (.istore_n 3, 1) := by decide +kernel
theorem dL_seen_84 : decode cL_seen 84 = .ok (.iload_n 3, 1) := by decide +kernel
theorem dL_seen_85 : decode cL_seen 85 = .ok (.bipush 60, 2) := by decide +kernel
theorem dL_seen_87 : decode cL_seen 87 = .ok (.if_icmp .ge 44, 3) := by decide +kernel
theorem dL_seen_90 : decode cL_seen 90 = .ok (.ldc2_w 12, 3) := by decide +kernel
theorem dL_seen_93 : decode cL_seen 93 = .ok (.ldc2_w 12, 3) := by decide +kernel
theorem dL_seen_96 : decode cL_seen 96 = .ok (.lload_n 1, 1) := by decide +kernel
theorem dL_seen_97 : decode cL_seen 97 = .ok (.lmul, 1) := by decide +kernel
theorem dL_seen_98 : decode cL_seen 98 = .ok (.aload_n 0, 1) := by decide +kernel
theorem dL_seen_99 : decode cL_seen 99 = .ok (.iload_n 3, 1) := by decide +kernel
theorem dL_seen_100 : decode cL_seen 100 = .ok (.iconst 5, 1) := by decide +kernel
theorem dL_seen_101 : decode cL_seen 101 = .ok (.idiv, 1) := by decide +kernel
theorem dL_seen_102 : decode cL_seen 102 = .ok (.iload_n 3, 1) := by decide +kernel
theorem dL_seen_103 : decode cL_seen 103 = .ok (.iconst 5, 1) := by decide +kernel
theorem dL_seen_104 : decode cL_seen 104 = .ok (.irem, 1) := by decide +kernel
theorem dL_seen_105 : decode cL_seen 105 = .ok (.invokevirtual 24, 3) := by decide +kernel
theorem dL_seen_108 : decode cL_seen 108 = .ok (.i2l, 1) := by decide +kernel
theorem dL_seen_109 : decode cL_seen 109 = .ok (.ladd, 1) := by decide +kernel
theorem dL_seen_110 : decode cL_seen 110 = .ok (.lmul, 1) := by decide +kernel
theorem dL_seen_111 : decode cL_seen 111 = .ok (.aload_n 0, 1) := by decide +kernel
theorem dL_seen_112 : decode cL_seen 112 = .ok (.iload_n 3, 1) := by decide +kernel
theorem dL_seen_113 : decode cL_seen 113 = .ok (.bipush 10, 2) := by decide +kernel
theorem dL_seen_115 : decode cL_seen 115 = .ok (.irem, 1) := by decide +kernel
theorem dL_seen_116 : decode cL_seen 116 = .ok (.iload_n 3, 1) := by decide +kernel
theorem dL_seen_117 : decode cL_seen 117 = .ok (.iconst 5, 1) := by decide +kernel
theorem dL_seen_118 : decode cL_seen 118 = .ok (.idiv, 1) := by decide +kernel
theorem dL_seen_119 : decode cL_seen 119 = .ok (.invokevirtual 27, 3) := by decide +kernel
theorem dL_seen_122 : decode cL_seen 122 = .ok (.i2l, 1) := by decide +kernel
theorem dL_seen_123 : decode cL_seen 123 = .ok (.ladd, 1) := by decide +kernel
theorem dL_seen_124 : decode cL_seen 124 = .ok (.lstore_n 1, 1) := by decide +kernel
theorem dL_seen_125 : decode cL_seen 125 = .ok (.iinc 3 1, 3) := by decide +kernel
theorem dL_seen_128 : decode cL_seen 128 = .ok (.goto (-44), 3) := by decide +kernel
theorem dL_seen_131 : decode cL_seen 131 = .ok (.lload_n 1, 1) := by decide +kernel
theorem dL_seen_132 : decode cL_seen 132 = .ok (.lreturn, 1) := by decide +kernel
set_option maxRecDepth 20000 in
theorem ggL_arePupils_X4_pupil : GoodIn wsL_arePupils wsX4_pupil := goodIn_r _ [5, 6, 7, 8, 9, 10, 11, 12, 13, 14, 15, 4, 16, 17, 18, 19, 20, 21, 22, 23, 24, 25, 26, 27, 28, 29, 30, 31, 32, 100, 101, 102, 103, 104, 105, 106, 107, 108, 109, 110, 111, 112, 113, 114, 115, 116, 117, 118, 119, 120] (by decide +kernel) (by decide +kernel)
set_option maxRecDepth 20000 in
theorem gL_arePupils_X4_pupil : GoodIn wsL_arePupils (wsV RL 20 RX4 yX4_pupil wsX4_pupil) := goodIn_app (goodIn_of _ (by decide +kernel)) ggL_arePupils_X4_pupil
set_option maxRecDepth 20000 in
theorem ggL_arePupils_X4_count : GoodIn wsL_arePupils wsX4_count := goodIn_r _ [36, 37, 6, 38, 39, 9, 40, 8, 13, 41, 7, 12, 42, 43, 44, 45, 17, 18, 4, 19, 46, 47, 48, 49, 50, 51, 23, 52, 53, 54, 55, 56, 57, 58, 59, 60, 61, 62, 63, 64, 65, 66, 67, 68, 69, 70, 29, 31, 32, 71, 72, 73, 74, 100, 101, 102, 103, 104, 105, 106, 107, 108, 109, 110, 111, 112, 113, 114, 115, 116, 117, 118, 119, 120, 121, 122, 123, 124, 125] (by decide +kernel) (by decide +kernel)
set_option maxRecDepth 20000 in
theorem gL_arePupils_X4_count : GoodIn wsL_arePupils (wsV RL 14 RX4 yX4_count wsX4_count) := goodIn_app (goodIn_of _ (by decide +kernel)) ggL_arePupils_X4_count
set_option maxRecDepth 20000 in
theorem ggL_arePupils_X4_excuse : GoodIn wsL_arePupils wsX4_excuse := goodIn_r _ [78, 6, 79, 80, 81, 82, 83, 84, 23, 85, 53, 86, 68, 69, 70, 29, 87, 88, 89, 90, 25, 26, 27, 28, 100, 101, 102, 103, 104, 105, 106, 107, 108, 109, 110, 111, 112, 113, 114, 115, 116, 117, 118, 119, 120] (by decide +kernel) (by decide +kernel)
set_option maxRecDepth 20000 in
theorem gL_arePupils_X4_excuse : GoodIn wsL_arePupils (wsV RL 24 RX4 yX4_excuse wsX4_excuse) := goodIn_app (goodIn_of _ (by decide +kernel)) ggL_arePupils_X4_excuse
set_option maxRecDepth 20000 in
theorem ggL_arePupils_X4_novelty : GoodIn wsL_arePupils wsX4_novelty := goodIn_r _ [94, 6, 14, 15, 4, 16, 17, 18, 19, 82, 83, 84, 23, 85, 53, 95, 59, 60, 61, 62, 63, 64, 65, 66, 67, 68, 69, 70, 29, 31, 32, 71, 72, 73, 74, 100, 101, 102, 103, 104, 105, 106, 107, 108, 109, 110, 111, 112, 113, 114, 115, 116, 117, 118, 119, 120] (by decide +kernel) (by decide +kernel)
set_option maxRecDepth 20000 in
theorem gL_arePupils_X4_novelty : GoodIn wsL_arePupils (wsV RL 27 RX4 yX4_novelty wsX4_novelty) := goodIn_app (goodIn_of _ (by decide +kernel)) ggL_arePupils_X4_novelty
set_option maxRecDepth 20000 in
theorem ggL_arePupils_L_size : GoodIn wsL_arePupils wsL_size := goodIn_r _ [99] (by decide +kernel) (by decide +kernel)
set_option maxRecDepth 20000 in
theorem gL_arePupils_L_size : GoodIn wsL_arePupils (va_wsS RL 32 yL_size wsL_size) := goodIn_app (goodIn_of _ (by decide +kernel)) ggL_arePupils_L_size
theorem dL_arePupils_0 : decode cL_arePupils 0 = .ok (.iconst 0, 1) := by decide +kernel
theorem dL_arePupils_1 : decode cL_arePupils 1 = .ok (.istore_n 1, 1) := by decide +kernel
theorem dL_arePupils_2 : decode cL_arePupils 2 = .ok (.iconst 0, 1) := by decide +kernel
theorem dL_arePupils_3 : decode cL_arePupils 3 = .ok (.istore_n 2, 1) := by decide +kernel
theorem dL_arePupils_4 : decode cL_arePupils 4 = .ok (.iconst 0, 1) := by decide +kernel
theorem dL_arePupils_5 : decode cL_arePupils 5 = .ok (.istore_n 3, 1) := by decide +kernel
theorem dL_arePupils_6 : decode cL_arePupils 6 = .ok (.iconst 0, 1) := by decide +kernel
theorem dL_arePupils_7 : decode cL_arePupils 7 = .ok (.istore 4, 2) := by decide +kernel
theorem dL_arePupils_9 : decode cL_arePupils 9 = .ok (.iconst 0, 1) := by decide +kernel
theorem dL_arePupils_10 : decode cL_arePupils 10 = .ok (.istore 5, 2) := by decide +kernel
theorem dL_arePupils_12 : decode cL_arePupils 12 = .ok (.iconst 0, 1) := by decide +kernel
theorem dL_arePupils_13 : decode cL_arePupils 13 = .ok (.istore 6, 2) := by decide +kernel
theorem dL_arePupils_15 : decode cL_arePupils 15 = .ok (.iconst 0, 1) := by decide +kernel
theorem dL_arePupils_16 : decode cL_arePupils 16 = .ok (.istore 7, 2) := by decide +kernel
theorem dL_arePupils_18 : decode cL_arePupils 18 = .ok (.iconst 1, 1) := by decide +kernel
theorem dL_arePupils_19 : decode cL_arePupils 19 = .ok (.istore 8, 2) := by decide +kernel
theorem dL_arePupils_21 : decode cL_arePupils 21 = .ok (.iconst 0, 1) := by decide +kernel
theorem dL_arePupils_22 : decode cL_arePupils 22 = .ok (.istore 9, 2) := by decide +kernel
theorem dL_arePupils_24 : decode cL_arePupils 24 = .ok (.iload 9, 2) := by decide +kernel
theorem dL_arePupils_26 : decode cL_arePupils 26 = .ok (.bipush 10, 2) := by decide +kernel
theorem dL_arePupils_28 : decode cL_arePupils 28 = .ok (.if_icmp .ge 293, 3) := by decide +kernel
theorem dL_arePupils_31 : decode cL_arePupils 31 = .ok (.iload 8, 2) := by decide +kernel
theorem dL_arePupils_33 : decode cL_arePupils 33 = .ok (.ifCond .eq 288, 3) := by decide +kernel
theorem dL_arePupils_36 : decode cL_arePupils 36 = .ok (.aload_n 0, 1) := by decide +kernel
theorem dL_arePupils_37 : decode cL_arePupils 37 = .ok (.iload 9, 2) := by decide +kernel
theorem dL_arePupils_39 : decode cL_arePupils 39 = .ok (.iconst 4, 1) := by decide +kernel
theorem dL_arePupils_40 : decode cL_arePupils 40 = .ok (.invokevirtual 20, 3) := by decide +kernel
theorem dL_arePupils_43 : decode cL_arePupils 43 = .ok (.istore 10, 2) := by decide +kernel
theorem dL_arePupils_45 : decode cL_arePupils 45 = .ok (.iload_n 1, 1) := by decide +kernel
theorem dL_arePupils_46 : decode cL_arePupils 46 = .ok (.aload_n 0, 1) := by decide +kernel
theorem dL_arePupils_47 : decode cL_arePupils 47 = .ok (.iload 9, 2) := by decide +kernel
theorem dL_arePupils_49 : decode cL_arePupils 49 = .ok (.iconst 1, 1) := by decide +kernel
theorem dL_arePupils_50 : decode cL_arePupils 50 = .ok (.invokevirtual 20, 3) := by decide +kernel
theorem dL_arePupils_53 : decode cL_arePupils 53 = .ok (.iadd, 1) := by decide +kernel
theorem dL_arePupils_54 : decode cL_arePupils 54 = .ok (.istore_n 1, 1) := by decide +kernel
theorem dL_arePupils_55 : decode cL_arePupils 55 = .ok (.iload_n 2, 1) := by decide +kernel
theorem dL_arePupils_56 : decode cL_arePupils 56 = .ok (.aload_n 0, 1) := by decide +kernel
theorem dL_arePupils_57 : decode cL_arePupils 57 = .ok (.iload 9, 2) := by decide +kernel
theorem dL_arePupils_59 : decode cL_arePupils 59 = .ok (.bipush 7, 2) := by decide +kernel
theorem dL_arePupils_61 : decode cL_arePupils 61 = .ok (.invokevirtual 20, 3) := by decide +kernel
theorem dL_arePupils_64 : decode cL_arePupils 64 = .ok (.iadd, 1) := by decide +kernel
theorem dL_arePupils_65 : decode cL_arePupils 65 = .ok (.istore_n 2, 1) := by decide +kernel
theorem dL_arePupils_66 : decode cL_arePupils 66 = .ok (.iload_n 3, 1) := by decide +kernel
theorem dL_arePupils_67 : decode cL_arePupils 67 = .ok (.aload_n 0, 1) := by decide +kernel
theorem dL_arePupils_68 : decode cL_arePupils 68 = .ok (.iload 9, 2) := by decide +kernel
theorem dL_arePupils_70 : decode cL_arePupils 70 = .ok (.iconst 0, 1) := by decide +kernel
theorem dL_arePupils_71 : decode cL_arePupils 71 = .ok (.invokevirtual 20, 3) := by decide +kernel
theorem dL_arePupils_74 : decode cL_arePupils 74 = .ok (.iadd, 1) := by decide +kernel
theorem dL_arePupils_75 : decode cL_arePupils 75 = .ok (.istore_n 3, 1) := by decide +kernel
theorem dL_arePupils_76 : decode cL_arePupils 76 = .ok (.iload 4, 2) := by decide +kernel
theorem dL_arePupils_78 : decode cL_arePupils 78 = .ok (.iload 9, 2) := by decide +kernel
theorem dL_arePupils_80 : decode cL_arePupils 80 = .ok (.iconst 2, 1) := by decide +kernel
theorem dL_arePupils_81 : decode cL_arePupils 81 = .ok (.irem, 1) := by decide +kernel
theorem dL_arePupils_82 : decode cL_arePupils 82 = .ok (.ifCond .ne 14, 3) := by decide +kernel
theorem dL_arePupils_85 : decode cL_arePupils 85 = .ok (.aload_n 0, 1) := by decide +kernel
theorem dL_arePupils_86 : decode cL_arePupils 86 = .ok (.iload 9, 2) := by decide +kernel
theorem dL_arePupils_88 : decode cL_arePupils 88 = .ok (.bipush 6, 2) := by decide +kernel
theorem dL_arePupils_90 : decode cL_arePupils 90 = .ok (.invokevirtual 20, 3) := by decide +kernel
theorem dL_arePupils_93 : decode cL_arePupils 93 = .ok (.goto 4, 3) := by decide +kernel
theorem dL_arePupils_96 : decode cL_arePupils 96 = .ok (.iconst 0, 1) := by decide +kernel
theorem dL_arePupils_97 : decode cL_arePupils 97 = .ok (.iadd, 1) := by decide +kernel
theorem dL_arePupils_98 : decode cL_arePupils 98 = .ok (.istore 4, 2) := by decide +kernel
theorem dL_arePupils_100 : decode cL_arePupils 100 = .ok (.iload 5, 2) := by decide +kernel
theorem dL_arePupils_102 : decode cL_arePupils 102 = .ok (.aload_n 0, 1) := by decide +kernel
theorem dL_arePupils_103 : decode cL_arePupils 103 = .ok (.iload 9, 2) := by decide +kernel
theorem dL_arePupils_105 : decode cL_arePupils 105 = .ok (.iconst 2, 1) := by decide +kernel
theorem dL_arePupils_106 : decode cL_arePupils 106 = .ok (.invokevirtual 20, 3) := by decide +kernel
theorem dL_arePupils_109 : decode cL_arePupils 109 = .ok (.iadd, 1) := by decide +kernel
theorem dL_arePupils_110 : decode cL_arePupils 110 = .ok (.istore 5, 2) := by decide +kernel
theorem dL_arePupils_112 : decode cL_arePupils 112 = .ok (.iload 6, 2) := by decide +kernel
theorem dL_arePupils_114 : decode cL_arePupils 114 = .ok (.aload_n 0, 1) := by decide +kernel
theorem dL_arePupils_115 : decode cL_arePupils 115 = .ok (.iload 9, 2) := by decide +kernel
theorem dL_arePupils_117 : decode cL_arePupils 117 = .ok (.iconst 3, 1) := by decide +kernel
theorem dL_arePupils_118 : decode cL_arePupils 118 = .ok (.invokevirtual 20, 3) := by decide +kernel
theorem dL_arePupils_121 : decode cL_arePupils 121 = .ok (.iadd, 1) := by decide +kernel
theorem dL_arePupils_122 : decode cL_arePupils 122 = .ok (.istore 6, 2) := by decide +kernel
theorem dL_arePupils_124 : decode cL_arePupils 124 = .ok (.iload 7, 2) := by decide +kernel
theorem dL_arePupils_126 : decode cL_arePupils 126 = .ok (.aload_n 0, 1) := by decide +kernel
theorem dL_arePupils_127 : decode cL_arePupils 127 = .ok (.iload 9, 2) := by decide +kernel
theorem dL_arePupils_129 : decode cL_arePupils 129 = .ok (.iconst 5, 1) := by decide +kernel
theorem dL_arePupils_130 : decode cL_arePupils 130 = .ok (.invokevirtual 20, 3) := by decide +kernel
theorem dL_arePupils_133 : decode cL_arePupils 133 = .ok (.iadd, 1) := by decide +kernel
theorem dL_arePupils_134 : decode cL_arePupils 134 = .ok (.istore 7, 2) := by decide +kernel
theorem dL_arePupils_136 : decode cL_arePupils 136 = .ok (.aload_n 0, 1) := by decide +kernel
theorem dL_arePupils_137 : decode cL_arePupils 137 = .ok (.iload 9, 2) := by decide +kernel
theorem dL_arePupils_139 : decode cL_arePupils 139 = .ok (.iconst 0, 1) := by decide +kernel
theorem dL_arePupils_140 : decode cL_arePupils 140 = .ok (.invokevirtual 20, 3) := by decide +kernel
theorem dL_arePupils_143 : decode cL_arePupils 143 = .ok (.ifCond .lt 169, 3) := by decide +kernel
theorem dL_arePupils_146 : decode cL_arePupils 146 = .ok (.aload_n 0, 1) := by decide +kernel
theorem dL_arePupils_147 : decode cL_arePupils 147 = .ok (.iload 9, 2) := by decide +kernel
theorem dL_arePupils_149 : decode cL_arePupils 149 = .ok (.iconst 0, 1) := by decide +kernel
theorem dL_arePupils_150 : decode cL_arePupils 150 = .ok (.invokevirtual 20, 3) := by decide +kernel
theorem dL_arePupils_153 : decode cL_arePupils 153 = .ok (.bipush 10, 2) := by decide +kernel
theorem dL_arePupils_155 : decode cL_arePupils 155 = .ok (.if_icmp .ge 157, 3) := by decide +kernel
theorem dL_arePupils_158 : decode cL_arePupils 158 = .ok (.aload_n 0, 1) := by decide +kernel
theorem dL_arePupils_159 : decode cL_arePupils 159 = .ok (.iload 9, 2) := by decide +kernel
theorem dL_arePupils_161 : decode cL_arePupils 161 = .ok (.iconst 1, 1) := by decide +kernel
theorem dL_arePupils_162 : decode cL_arePupils 162 = .ok (.invokevirtual 20, 3) := by decide +kernel
theorem dL_arePupils_165 : decode cL_arePupils 165 = .ok (.ifCond .lt 147, 3) := by decide +kernel
theorem dL_arePupils_168 : decode cL_arePupils 168 = .ok (.aload_n 0, 1) := by decide +kernel
theorem dL_arePupils_169 : decode cL_arePupils 169 = .ok (.iload 9, 2) := by decide +kernel
theorem dL_arePupils_171 : decode cL_arePupils 171 = .ok (.bipush 6, 2) := by decide +kernel
theorem dL_arePupils_173 : decode cL_arePupils 173 = .ok (.invokevirtual 20, 3) := by decide +kernel
theorem dL_arePupils_176 : decode cL_arePupils 176 = .ok (.ifCond .lt 136, 3) := by decide +kernel
theorem dL_arePupils_179 : decode cL_arePupils 179 = .ok (.aload_n 0, 1) := by decide +kernel
theorem dL_arePupils_180 : decode cL_arePupils 180 = .ok (.iload 9, 2) := by decide +kernel
theorem dL_arePupils_182 : decode cL_arePupils 182 = .ok (.bipush 6, 2) := by decide +kernel
theorem dL_arePupils_184 : decode cL_arePupils 184 = .ok (.invokevirtual 20, 3) := by decide +kernel
theorem dL_arePupils_187 : decode cL_arePupils 187 = .ok (.bipush 10, 2) := by decide +kernel
theorem dL_arePupils_189 : decode cL_arePupils 189 = .ok (.if_icmp .ge 123, 3) := by decide +kernel
theorem dL_arePupils_192 : decode cL_arePupils 192 = .ok (.aload_n 0, 1) := by decide +kernel
theorem dL_arePupils_193 : decode cL_arePupils 193 = .ok (.iload 9, 2) := by decide +kernel
theorem dL_arePupils_195 : decode cL_arePupils 195 = .ok (.bipush 6, 2) := by decide +kernel
theorem dL_arePupils_197 : decode cL_arePupils 197 = .ok (.invokevirtual 20, 3) := by decide +kernel
theorem dL_arePupils_200 : decode cL_arePupils 200 = .ok (.aload_n 0, 1) := by decide +kernel
theorem dL_arePupils_201 : decode cL_arePupils 201 = .ok (.iload 9, 2) := by decide +kernel
theorem dL_arePupils_203 : decode cL_arePupils 203 = .ok (.iload 9, 2) := by decide +kernel
theorem dL_arePupils_205 : decode cL_arePupils 205 = .ok (.iconst 2, 1) := by decide +kernel
theorem dL_arePupils_206 : decode cL_arePupils 206 = .ok (.irem, 1) := by decide +kernel
theorem dL_arePupils_207 : decode cL_arePupils 207 = .ok (.isub, 1) := by decide +kernel
theorem dL_arePupils_208 : decode cL_arePupils 208 = .ok (.bipush 6, 2) := by decide +kernel
theorem dL_arePupils_210 : decode cL_arePupils 210 = .ok (.invokevirtual 20, 3) := by decide +kernel
theorem dL_arePupils_213 : decode cL_arePupils 213 = .ok (.if_icmp .ne 99, 3) := by decide +kernel
theorem dL_arePupils_216 : decode cL_arePupils 216 = .ok (.iload 10, 2) := by decide +kernel
theorem dL_arePupils_218 : decode cL_arePupils 218 = .ok (.bipush (-6), 2) := by decide +kernel
theorem dL_arePupils_220 : decode cL_arePupils 220 = .ok (.if_icmp .eq 14, 3) := by decide +kernel
theorem dL_arePupils_223 : decode cL_arePupils 223 = .ok (.iload 10, 2) := by decide +kernel
theorem dL_arePupils_225 : decode cL_arePupils 225 = .ok (.ifCond .lt 87, 3) := by decide +kernel
theorem dL_arePupils_228 : decode cL_arePupils 228 = .ok (.iload 10, 2) := by decide +kernel
theorem dL_arePupils_230 : decode cL_arePupils 230 = .ok (.iconst 5, 1) := by decide +kernel
theorem dL_arePupils_231 : decode cL_arePupils 231 = .ok (.if_icmp .ge 81, 3) := by decide +kernel
theorem dL_arePupils_234 : decode cL_arePupils 234 = .ok (.aload_n 0, 1) := by decide +kernel
theorem dL_arePupils_235 : decode cL_arePupils 235 = .ok (.iload 9, 2) := by decide +kernel
theorem dL_arePupils_237 : decode cL_arePupils 237 = .ok (.iconst 5, 1) := by decide +kernel
theorem dL_arePupils_238 : decode cL_arePupils 238 = .ok (.invokevirtual 20, 3) := by decide +kernel
theorem dL_arePupils_241 : decode cL_arePupils 241 = .ok (.aload_n 0, 1) := by decide +kernel
theorem dL_arePupils_242 : decode cL_arePupils 242 = .ok (.iload 9, 2) := by decide +kernel
theorem dL_arePupils_244 : decode cL_arePupils 244 = .ok (.iconst 2, 1) := by decide +kernel
theorem dL_arePupils_245 : decode cL_arePupils 245 = .ok (.invokevirtual 20, 3) := by decide +kernel
theorem dL_arePupils_248 : decode cL_arePupils 248 = .ok (.if_icmp .gt 64, 3) := by decide +kernel
theorem dL_arePupils_251 : decode cL_arePupils 251 = .ok (.iload 10, 2) := by decide +kernel
theorem dL_arePupils_253 : decode cL_arePupils 253 = .ok (.bipush (-6), 2) := by decide +kernel
theorem dL_arePupils_255 : decode cL_arePupils 255 = .ok (.if_icmp .ne 13, 3) := by decide +kernel
theorem dL_arePupils_258 : decode cL_arePupils 258 = .ok (.aload_n 0, 1) := by decide +kernel
theorem dL_arePupils_259 : decode cL_arePupils 259 = .ok (.iload 9, 2) := by decide +kernel
theorem dL_arePupils_261 : decode cL_arePupils 261 = .ok (.iconst 5, 1) := by decide +kernel
theorem dL_arePupils_262 : decode cL_arePupils 262 = .ok (.invokevirtual 20, 3) := by decide +kernel
theorem dL_arePupils_265 : decode cL_arePupils 265 = .ok (.ifCond .ne 47, 3) := by decide +kernel
theorem dL_arePupils_268 : decode cL_arePupils 268 = .ok (.aload_n 0, 1) := by decide +kernel
theorem dL_arePupils_269 : decode cL_arePupils 269 = .ok (.iload 9, 2) := by decide +kernel
theorem dL_arePupils_271 : decode cL_arePupils 271 = .ok (.bipush 7, 2) := by decide +kernel
theorem dL_arePupils_273 : decode cL_arePupils 273 = .ok (.invokevirtual 20, 3) := by decide +kernel
theorem dL_arePupils_276 : decode cL_arePupils 276 = .ok (.ifCond .lt 36, 3) := by decide +kernel
theorem dL_arePupils_279 : decode cL_arePupils 279 = .ok (.aload_n 0, 1) := by decide +kernel
theorem dL_arePupils_280 : decode cL_arePupils 280 = .ok (.iload 9, 2) := by decide +kernel
theorem dL_arePupils_282 : decode cL_arePupils 282 = .ok (.iconst 3, 1) := by decide +kernel
theorem dL_arePupils_283 : decode cL_arePupils 283 = .ok (.invokevirtual 20, 3) := by decide +kernel
theorem dL_arePupils_286 : decode cL_arePupils 286 = .ok (.ifCond .gt 22, 3) := by decide +kernel
theorem dL_arePupils_289 : decode cL_arePupils 289 = .ok (.aload_n 0, 1) := by decide +kernel
theorem dL_arePupils_290 : decode cL_arePupils 290 = .ok (.iload 9, 2) := by decide +kernel
theorem dL_arePupils_292 : decode cL_arePupils 292 = .ok (.iconst 1, 1) := by decide +kernel
theorem dL_arePupils_293 : decode cL_arePupils 293 = .ok (.invokevirtual 20, 3) := by decide +kernel
theorem dL_arePupils_296 : decode cL_arePupils 296 = .ok (.aload_n 0, 1) := by decide +kernel
theorem dL_arePupils_297 : decode cL_arePupils 297 = .ok (.iload 9, 2) := by decide +kernel
theorem dL_arePupils_299 : decode cL_arePupils 299 = .ok (.bipush 7, 2) := by decide +kernel
theorem dL_arePupils_301 : decode cL_arePupils 301 = .ok (.invokevirtual 20, 3) := by decide +kernel
theorem dL_arePupils_304 : decode cL_arePupils 304 = .ok (.iadd, 1) := by decide +kernel
theorem dL_arePupils_305 : decode cL_arePupils 305 = .ok (.ifCond .ne 7, 3) := by decide +kernel
theorem dL_arePupils_308 : decode cL_arePupils 308 = .ok (.iconst 1, 1) := by decide +kernel
theorem dL_arePupils_309 : decode cL_arePupils 309 = .ok (.goto 4, 3) := by decide +kernel
theorem dL_arePupils_312 : decode cL_arePupils 312 = .ok (.iconst 0, 1) := by decide +kernel
theorem dL_arePupils_313 : decode cL_arePupils 313 = .ok (.istore 8, 2) := by decide +kernel
theorem dL_arePupils_315 : decode cL_arePupils 315 = .ok (.iinc 9 1, 3) := by decide +kernel
theorem dL_arePupils_318 : decode cL_arePupils 318 = .ok (.goto (-294), 3) := by decide +kernel
theorem dL_arePupils_321 : decode cL_arePupils 321 = .ok (.iconst 0, 1) := by decide +kernel
theorem dL_arePupils_322 : decode cL_arePupils 322 = .ok (.istore 9, 2) := by decide +kernel
theorem dL_arePupils_324 : decode cL_arePupils 324 = .ok (.iconst 0, 1) := by decide +kernel
theorem dL_arePupils_325 : decode cL_arePupils 325 = .ok (.istore 10, 2) := by decide +kernel
theorem dL_arePupils_327 : decode cL_arePupils 327 = .ok (.iconst 0, 1) := by decide +kernel
theorem dL_arePupils_328 : decode cL_arePupils 328 = .ok (.istore 11, 2) := by decide +kernel
theorem dL_arePupils_330 : decode cL_arePupils 330 = .ok (.iconst 0, 1) := by decide +kernel
theorem dL_arePupils_331 : decode cL_arePupils 331 = .ok (.istore 12, 2) := by decide +kernel
theorem dL_arePupils_333 : decode cL_arePupils 333 = .ok (.iload 12, 2) := by decide +kernel
theorem dL_arePupils_335 : decode cL_arePupils 335 = .ok (.aload_n 0, 1) := by decide +kernel
theorem dL_arePupils_336 : decode cL_arePupils 336 = .ok (.iconst 5, 1) := by decide +kernel
theorem dL_arePupils_337 : decode cL_arePupils 337 = .ok (.invokevirtual 14, 3) := by decide +kernel
theorem dL_arePupils_340 : decode cL_arePupils 340 = .ok (.if_icmp .ge 300, 3) := by decide +kernel
theorem dL_arePupils_343 : decode cL_arePupils 343 = .ok (.iload 8, 2) := by decide +kernel
theorem dL_arePupils_345 : decode cL_arePupils 345 = .ok (.ifCond .eq 295, 3) := by decide +kernel
theorem dL_arePupils_348 : decode cL_arePupils 348 = .ok (.iconst 0, 1) := by decide +kernel
theorem dL_arePupils_349 : decode cL_arePupils 349 = .ok (.istore 13, 2) := by decide +kernel
theorem dL_arePupils_351 : decode cL_arePupils 351 = .ok (.aload_n 0, 1) := by decide +kernel
theorem dL_arePupils_352 : decode cL_arePupils 352 = .ok (.iload 12, 2) := by decide +kernel
theorem dL_arePupils_354 : decode cL_arePupils 354 = .ok (.iconst 4, 1) := by decide +kernel
theorem dL_arePupils_355 : decode cL_arePupils 355 = .ok (.invokevirtual 24, 3) := by decide +kernel
theorem dL_arePupils_358 : decode cL_arePupils 358 = .ok (.istore 14, 2) := by decide +kernel
theorem dL_arePupils_360 : decode cL_arePupils 360 = .ok (.iload 9, 2) := by decide +kernel
theorem dL_arePupils_362 : decode cL_arePupils 362 = .ok (.aload_n 0, 1) := by decide +kernel
theorem dL_arePupils_363 : decode cL_arePupils 363 = .ok (.iload 12, 2) := by decide +kernel
theorem dL_arePupils_365 : decode cL_arePupils 365 = .ok (.iconst 2, 1) := by decide +kernel
theorem dL_arePupils_366 : decode cL_arePupils 366 = .ok (.invokevirtual 24, 3) := by decide +kernel
theorem dL_arePupils_369 : decode cL_arePupils 369 = .ok (.iadd, 1) := by decide +kernel
theorem dL_arePupils_370 : decode cL_arePupils 370 = .ok (.istore 9, 2) := by decide +kernel
theorem dL_arePupils_372 : decode cL_arePupils 372 = .ok (.iload 10, 2) := by decide +kernel
theorem dL_arePupils_374 : decode cL_arePupils 374 = .ok (.aload_n 0, 1) := by decide +kernel
theorem dL_arePupils_375 : decode cL_arePupils 375 = .ok (.iload 12, 2) := by decide +kernel
theorem dL_arePupils_377 : decode cL_arePupils 377 = .ok (.iconst 3, 1) := by decide +kernel
theorem dL_arePupils_378 : decode cL_arePupils 378 = .ok (.invokevirtual 24, 3) := by decide +kernel
theorem dL_arePupils_381 : decode cL_arePupils 381 = .ok (.iadd, 1) := by decide +kernel
theorem dL_arePupils_382 : decode cL_arePupils 382 = .ok (.istore 10, 2) := by decide +kernel
theorem dL_arePupils_384 : decode cL_arePupils 384 = .ok (.iconst 0, 1) := by decide +kernel
theorem dL_arePupils_385 : decode cL_arePupils 385 = .ok (.istore 15, 2) := by decide +kernel
theorem dL_arePupils_387 : decode cL_arePupils 387 = .ok (.iload 15, 2) := by decide +kernel
theorem dL_arePupils_389 : decode cL_arePupils 389 = .ok (.bipush 10, 2) := by decide +kernel
theorem dL_arePupils_391 : decode cL_arePupils 391 = .ok (.if_icmp .ge 105, 3) := by decide +kernel
theorem dL_arePupils_394 : decode cL_arePupils 394 = .ok (.iload 8, 2) := by decide +kernel
theorem dL_arePupils_396 : decode cL_arePupils 396 = .ok (.ifCond .eq 100, 3) := by decide +kernel
theorem dL_arePupils_399 : decode cL_arePupils 399 = .ok (.aload_n 0, 1) := by decide +kernel
theorem dL_arePupils_400 : decode cL_arePupils 400 = .ok (.iload 15, 2) := by decide +kernel
theorem dL_arePupils_402 : decode cL_arePupils 402 = .ok (.iload 12, 2) := by decide +kernel
theorem dL_arePupils_404 : decode cL_arePupils 404 = .ok (.invokevirtual 27, 3) := by decide +kernel
theorem dL_arePupils_407 : decode cL_arePupils 407 = .ok (.istore 16, 2) := by decide +kernel
theorem dL_arePupils_409 : decode cL_arePupils 409 = .ok (.iload 13, 2) := by decide +kernel
theorem dL_arePupils_411 : decode cL_arePupils 411 = .ok (.iload 16, 2) := by decide +kernel
theorem dL_arePupils_413 : decode cL_arePupils 413 = .ok (.iadd, 1) := by decide +kernel
theorem dL_arePupils_414 : decode cL_arePupils 414 = .ok (.istore 13, 2) := by decide +kernel
theorem dL_arePupils_416 : decode cL_arePupils 416 = .ok (.iload 16, 2) := by decide +kernel
theorem dL_arePupils_418 : decode cL_arePupils 418 = .ok (.ifCond .lt 69, 3) := by decide +kernel
theorem dL_arePupils_421 : decode cL_arePupils 421 = .ok (.iload 16, 2) := by decide +kernel
theorem dL_arePupils_423 : decode cL_arePupils 423 = .ok (.bipush 100, 2) := by decide +kernel
theorem dL_arePupils_425 : decode cL_arePupils 425 = .ok (.if_icmp .gt 62, 3) := by decide +kernel
theorem dL_arePupils_428 : decode cL_arePupils 428 = .ok (.iload 16, 2) := by decide +kernel
theorem dL_arePupils_430 : decode cL_arePupils 430 = .ok (.aload_n 0, 1) := by decide +kernel
theorem dL_arePupils_431 : decode cL_arePupils 431 = .ok (.iload 15, 2) := by decide +kernel
theorem dL_arePupils_433 : decode cL_arePupils 433 = .ok (.iload 15, 2) := by decide +kernel
theorem dL_arePupils_435 : decode cL_arePupils 435 = .ok (.iconst 2, 1) := by decide +kernel
theorem dL_arePupils_436 : decode cL_arePupils 436 = .ok (.irem, 1) := by decide +kernel
theorem dL_arePupils_437 : decode cL_arePupils 437 = .ok (.isub, 1) := by decide +kernel
theorem dL_arePupils_438 : decode cL_arePupils 438 = .ok (.iload 12, 2) := by decide +kernel
theorem dL_arePupils_440 : decode cL_arePupils 440 = .ok (.invokevirtual 27, 3) := by decide +kernel
theorem dL_arePupils_443 : decode cL_arePupils 443 = .ok (.if_icmp .ne 44, 3) := by decide +kernel
theorem dL_arePupils_446 : decode cL_arePupils 446 = .ok (.aload_n 0, 1) := by decide +kernel
theorem dL_arePupils_447 : decode cL_arePupils 447 = .ok (.iload 12, 2) := by decide +kernel
theorem dL_arePupils_449 : decode cL_arePupils 449 = .ok (.iconst 2, 1) := by decide +kernel
theorem dL_arePupils_450 : decode cL_arePupils 450 = .ok (.invokevirtual 24, 3) := by decide +kernel
theorem dL_arePupils_453 : decode cL_arePupils 453 = .ok (.ifCond .gt 10, 3) := by decide +kernel
theorem dL_arePupils_456 : decode cL_arePupils 456 = .ok (.iload 16, 2) := by decide +kernel
theorem dL_arePupils_458 : decode cL_arePupils 458 = .ok (.bipush 100, 2) := by decide +kernel
theorem dL_arePupils_460 : decode cL_arePupils 460 = .ok (.if_icmp .ne 27, 3) := by decide +kernel
theorem dL_arePupils_463 : decode cL_arePupils 463 = .ok (.iload 14, 2) := by decide +kernel
theorem dL_arePupils_465 : decode cL_arePupils 465 = .ok (.iload 15, 2) := by decide +kernel
theorem dL_arePupils_467 : decode cL_arePupils 467 = .ok (.ishr, 1) := by decide +kernel
theorem dL_arePupils_468 : decode cL_arePupils 468 = .ok (.iconst 1, 1) := by decide +kernel
theorem dL_arePupils_469 : decode cL_arePupils 469 = .ok (.iand, 1) := by decide +kernel
theorem dL_arePupils_470 : decode cL_arePupils 470 = .ok (.ifCond .eq 13, 3) := by decide +kernel
theorem dL_arePupils_473 : decode cL_arePupils 473 = .ok (.aload_n 0, 1) := by decide +kernel
theorem dL_arePupils_474 : decode cL_arePupils 474 = .ok (.iload 15, 2) := by decide +kernel
theorem dL_arePupils_476 : decode cL_arePupils 476 = .ok (.iconst 5, 1) := by decide +kernel
theorem dL_arePupils_477 : decode cL_arePupils 477 = .ok (.invokevirtual 20, 3) := by decide +kernel
theorem dL_arePupils_480 : decode cL_arePupils 480 = .ok (.ifCond .le 7, 3) := by decide +kernel
theorem dL_arePupils_483 : decode cL_arePupils 483 = .ok (.iconst 1, 1) := by decide +kernel
theorem dL_arePupils_484 : decode cL_arePupils 484 = .ok (.goto 4, 3) := by decide +kernel
theorem dL_arePupils_487 : decode cL_arePupils 487 = .ok (.iconst 0, 1) := by decide +kernel
theorem dL_arePupils_488 : decode cL_arePupils 488 = .ok (.istore 8, 2) := by decide +kernel
theorem dL_arePupils_490 : decode cL_arePupils 490 = .ok (.iinc 15 1, 3) := by decide +kernel
theorem dL_arePupils_493 : decode cL_arePupils 493 = .ok (.goto (-106), 3) := by decide +kernel
theorem dL_arePupils_496 : decode cL_arePupils 496 = .ok (.iload 11, 2) := by decide +kernel
theorem dL_arePupils_498 : decode cL_arePupils 498 = .ok (.iload 13, 2) := by decide +kernel
theorem dL_arePupils_500 : decode cL_arePupils 500 = .ok (.ifCond .ne 7, 3) := by decide +kernel
theorem dL_arePupils_503 : decode cL_arePupils 503 = .ok (.iconst 1, 1) := by decide +kernel
theorem dL_arePupils_504 : decode cL_arePupils 504 = .ok (.goto 4, 3) := by decide +kernel
theorem dL_arePupils_507 : decode cL_arePupils 507 = .ok (.iconst 0, 1) := by decide +kernel
theorem dL_arePupils_508 : decode cL_arePupils 508 = .ok (.iadd, 1) := by decide +kernel
theorem dL_arePupils_509 : decode cL_arePupils 509 = .ok (.istore 11, 2) := by decide +kernel
theorem dL_arePupils_511 : decode cL_arePupils 511 = .ok (.iload 8, 2) := by decide +kernel
theorem dL_arePupils_513 : decode cL_arePupils 513 = .ok (.ifCond .eq 118, 3) := by decide +kernel
theorem dL_arePupils_516 : decode cL_arePupils 516 = .ok (.aload_n 0, 1) := by decide +kernel
theorem dL_arePupils_517 : decode cL_arePupils 517 = .ok (.iload 12, 2) := by decide +kernel
theorem dL_arePupils_519 : decode cL_arePupils 519 = .ok (.iconst 0, 1) := by decide +kernel
theorem dL_arePupils_520 : decode cL_arePupils 520 = .ok (.invokevirtual 24, 3) := by decide +kernel
theorem dL_arePupils_523 : decode cL_arePupils 523 = .ok (.ifCond .lt 108, 3) := by decide +kernel
theorem dL_arePupils_526 : decode cL_arePupils 526 = .ok (.aload_n 0, 1) := by decide +kernel
theorem dL_arePupils_527 : decode cL_arePupils 527 = .ok (.iload 12, 2) := by decide +kernel
theorem dL_arePupils_529 : decode cL_arePupils 529 = .ok (.iconst 0, 1) := by decide +kernel
theorem dL_arePupils_530 : decode cL_arePupils 530 = .ok (.invokevirtual 24, 3) := by decide +kernel
theorem dL_arePupils_533 : decode cL_arePupils 533 = .ok (.iconst 5, 1) := by decide +kernel
theorem dL_arePupils_534 : decode cL_arePupils 534 = .ok (.if_icmp .ge 97, 3) := by decide +kernel
theorem dL_arePupils_537 : decode cL_arePupils 537 = .ok (.aload_n 0, 1) := by decide +kernel
theorem dL_arePupils_538 : decode cL_arePupils 538 = .ok (.iload 12, 2) := by decide +kernel
theorem dL_arePupils_540 : decode cL_arePupils 540 = .ok (.iconst 1, 1) := by decide +kernel
theorem dL_arePupils_541 : decode cL_arePupils 541 = .ok (.invokevirtual 24, 3) := by decide +kernel
theorem dL_arePupils_544 : decode cL_arePupils 544 = .ok (.ifCond .le 87, 3) := by decide +kernel
theorem dL_arePupils_547 : decode cL_arePupils 547 = .ok (.aload_n 0, 1) := by decide +kernel
theorem dL_arePupils_548 : decode cL_arePupils 548 = .ok (.iload 12, 2) := by decide +kernel
theorem dL_arePupils_550 : decode cL_arePupils 550 = .ok (.iconst 1, 1) := by decide +kernel
theorem dL_arePupils_551 : decode cL_arePupils 551 = .ok (.invokevirtual 24, 3) := by decide +kernel
theorem dL_arePupils_554 : decode cL_arePupils 554 = .ok (.bipush 100, 2) := by decide +kernel
theorem dL_arePupils_556 : decode cL_arePupils 556 = .ok (.if_icmp .ge 75, 3) := by decide +kernel
theorem dL_arePupils_559 : decode cL_arePupils 559 = .ok (.aload_n 0, 1) := by decide +kernel
theorem dL_arePupils_560 : decode cL_arePupils 560 = .ok (.iload 12, 2) := by decide +kernel
theorem dL_arePupils_562 : decode cL_arePupils 562 = .ok (.iconst 2, 1) := by decide +kernel
theorem dL_arePupils_563 : decode cL_arePupils 563 = .ok (.invokevirtual 24, 3) := by decide +kernel
theorem dL_arePupils_566 : decode cL_arePupils 566 = .ok (.aload_n 0, 1) := by decide +kernel
theorem dL_arePupils_567 : decode cL_arePupils 567 = .ok (.iload 12, 2) := by decide +kernel
theorem dL_arePupils_569 : decode cL_arePupils 569 = .ok (.iconst 3, 1) := by decide +kernel
theorem dL_arePupils_570 : decode cL_arePupils 570 = .ok (.invokevirtual 24, 3) := by decide +kernel
theorem dL_arePupils_573 : decode cL_arePupils 573 = .ok (.if_icmp .gt 58, 3) := by decide +kernel
theorem dL_arePupils_576 : decode cL_arePupils 576 = .ok (.iload 14, 2) := by decide +kernel
theorem dL_arePupils_578 : decode cL_arePupils 578 = .ok (.invokestatic 32, 3) := by decide +kernel
theorem dL_arePupils_581 : decode cL_arePupils 581 = .ok (.aload_n 0, 1) := by decide +kernel
theorem dL_arePupils_582 : decode cL_arePupils 582 = .ok (.iload 12, 2) := by decide +kernel
theorem dL_arePupils_584 : decode cL_arePupils 584 = .ok (.iconst 2, 1) := by decide +kernel
theorem dL_arePupils_585 : decode cL_arePupils 585 = .ok (.invokevirtual 24, 3) := by decide +kernel
theorem dL_arePupils_588 : decode cL_arePupils 588 = .ok (.if_icmp .gt 43, 3) := by decide +kernel
theorem dL_arePupils_591 : decode cL_arePupils 591 = .ok (.iload 14, 2) := by decide +kernel
theorem dL_arePupils_593 : decode cL_arePupils 593 = .ok (.ifCond .ne 7, 3) := by decide +kernel
theorem dL_arePupils_596 : decode cL_arePupils 596 = .ok (.iconst 1, 1) := by decide +kernel
theorem dL_arePupils_597 : decode cL_arePupils 597 = .ok (.goto 4, 3) := by decide +kernel
theorem dL_arePupils_600 : decode cL_arePupils 600 = .ok (.iconst 0, 1) := by decide +kernel
theorem dL_arePupils_601 : decode cL_arePupils 601 = .ok (.aload_n 0, 1) := by decide +kernel
theorem dL_arePupils_602 : decode cL_arePupils 602 = .ok (.iload 12, 2) := by decide +kernel
theorem dL_arePupils_604 : decode cL_arePupils 604 = .ok (.iconst 2, 1) := by decide +kernel
theorem dL_arePupils_605 : decode cL_arePupils 605 = .ok (.invokevirtual 24, 3) := by decide +kernel
theorem dL_arePupils_608 : decode cL_arePupils 608 = .ok (.ifCond .ne 7, 3) := by decide +kernel
theorem dL_arePupils_611 : decode cL_arePupils 611 = .ok (.iconst 1, 1) := by decide +kernel
theorem dL_arePupils_612 : decode cL_arePupils 612 = .ok (.goto 4, 3) := by decide +kernel
theorem dL_arePupils_615 : decode cL_arePupils 615 = .ok (.iconst 0, 1) := by decide +kernel
theorem dL_arePupils_616 : decode cL_arePupils 616 = .ok (.if_icmp .ne 15, 3) := by decide +kernel
theorem dL_arePupils_619 : decode cL_arePupils 619 = .ok (.iload 14, 2) := by decide +kernel
theorem dL_arePupils_621 : decode cL_arePupils 621 = .ok (.sipush 1024, 3) := by decide +kernel
theorem dL_arePupils_624 : decode cL_arePupils 624 = .ok (.if_icmp .ge 7, 3) := by decide +kernel
theorem dL_arePupils_627 : decode cL_arePupils 627 = .ok (.iconst 1, 1) := by decide +kernel
theorem dL_arePupils_628 : decode cL_arePupils 628 = .ok (.goto 4, 3) := by decide +kernel
theorem dL_arePupils_631 : decode cL_arePupils 631 = .ok (.iconst 0, 1) := by decide +kernel
theorem dL_arePupils_632 : decode cL_arePupils 632 = .ok (.istore 8, 2) := by decide +kernel
theorem dL_arePupils_634 : decode cL_arePupils 634 = .ok (.iinc 12 1, 3) := by decide +kernel
theorem dL_arePupils_637 : decode cL_arePupils 637 = .ok (.goto (-304), 3) := by decide +kernel
theorem dL_arePupils_640 : decode cL_arePupils 640 = .ok (.iload 8, 2) := by decide +kernel
theorem dL_arePupils_642 : decode cL_arePupils 642 = .ok (.ifCond .eq 128, 3) := by decide +kernel
theorem dL_arePupils_645 : decode cL_arePupils 645 = .ok (.iload_n 1, 1) := by decide +kernel
theorem dL_arePupils_646 : decode cL_arePupils 646 = .ok (.aload_n 0, 1) := by decide +kernel
theorem dL_arePupils_647 : decode cL_arePupils 647 = .ok (.bipush 11, 2) := by decide +kernel
theorem dL_arePupils_649 : decode cL_arePupils 649 = .ok (.invokevirtual 14, 3) := by decide +kernel
theorem dL_arePupils_652 : decode cL_arePupils 652 = .ok (.if_icmp .ne 118, 3) := by decide +kernel
theorem dL_arePupils_655 : decode cL_arePupils 655 = .ok (.iload_n 2, 1) := by decide +kernel
theorem dL_arePupils_656 : decode cL_arePupils 656 = .ok (.aload_n 0, 1) := by decide +kernel
theorem dL_arePupils_657 : decode cL_arePupils 657 = .ok (.bipush 12, 2) := by decide +kernel
theorem dL_arePupils_659 : decode cL_arePupils 659 = .ok (.invokevirtual 14, 3) := by decide +kernel
theorem dL_arePupils_662 : decode cL_arePupils 662 = .ok (.if_icmp .ne 108, 3) := by decide +kernel
theorem dL_arePupils_665 : decode cL_arePupils 665 = .ok (.iload_n 1, 1) := by decide +kernel
theorem dL_arePupils_666 : decode cL_arePupils 666 = .ok (.iload_n 2, 1) := by decide +kernel
theorem dL_arePupils_667 : decode cL_arePupils 667 = .ok (.iadd, 1) := by decide +kernel
theorem dL_arePupils_668 : decode cL_arePupils 668 = .ok (.aload_n 0, 1) := by decide +kernel
theorem dL_arePupils_669 : decode cL_arePupils 669 = .ok (.bipush 13, 2) := by decide +kernel
theorem dL_arePupils_671 : decode cL_arePupils 671 = .ok (.invokevirtual 14, 3) := by decide +kernel
theorem dL_arePupils_674 : decode cL_arePupils 674 = .ok (.if_icmp .ne 96, 3) := by decide +kernel
theorem dL_arePupils_677 : decode cL_arePupils 677 = .ok (.iload_n 3, 1) := by decide +kernel
theorem dL_arePupils_678 : decode cL_arePupils 678 = .ok (.aload_n 0, 1) := by decide +kernel
theorem dL_arePupils_679 : decode cL_arePupils 679 = .ok (.bipush 15, 2) := by decide +kernel
theorem dL_arePupils_681 : decode cL_arePupils 681 = .ok (.invokevirtual 14, 3) := by decide +kernel
theorem dL_arePupils_684 : decode cL_arePupils 684 = .ok (.if_icmp .ne 86, 3) := by decide +kernel
theorem dL_arePupils_687 : decode cL_arePupils 687 = .ok (.iload 4, 2) := by decide +kernel
theorem dL_arePupils_689 : decode cL_arePupils 689 = .ok (.aload_n 0, 1) := by decide +kernel
theorem dL_arePupils_690 : decode cL_arePupils 690 = .ok (.bipush 16, 2) := by decide +kernel
theorem dL_arePupils_692 : decode cL_arePupils 692 = .ok (.invokevirtual 14, 3) := by decide +kernel
theorem dL_arePupils_695 : decode cL_arePupils 695 = .ok (.if_icmp .ne 75, 3) := by decide +kernel
theorem dL_arePupils_698 : decode cL_arePupils 698 = .ok (.iload 5, 2) := by decide +kernel
theorem dL_arePupils_700 : decode cL_arePupils 700 = .ok (.aload_n 0, 1) := by decide +kernel
theorem dL_arePupils_701 : decode cL_arePupils 701 = .ok (.bipush 6, 2) := by decide +kernel
theorem dL_arePupils_703 : decode cL_arePupils 703 = .ok (.invokevirtual 14, 3) := by decide +kernel
theorem dL_arePupils_706 : decode cL_arePupils 706 = .ok (.if_icmp .ne 64, 3) := by decide +kernel
theorem dL_arePupils_709 : decode cL_arePupils 709 = .ok (.iload 6, 2) := by decide +kernel
theorem dL_arePupils_711 : decode cL_arePupils 711 = .ok (.aload_n 0, 1) := by decide +kernel
theorem dL_arePupils_712 : decode cL_arePupils 712 = .ok (.bipush 7, 2) := by decide +kernel
theorem dL_arePupils_714 : decode cL_arePupils 714 = .ok (.invokevirtual 14, 3) := by decide +kernel
theorem dL_arePupils_717 : decode cL_arePupils 717 = .ok (.aload_n 0, 1) := by decide +kernel
theorem dL_arePupils_718 : decode cL_arePupils 718 = .ok (.bipush 8, 2) := by decide +kernel
theorem dL_arePupils_720 : decode cL_arePupils 720 = .ok (.invokevirtual 14, 3) := by decide +kernel
theorem dL_arePupils_723 : decode cL_arePupils 723 = .ok (.iadd, 1) := by decide +kernel
theorem dL_arePupils_724 : decode cL_arePupils 724 = .ok (.aload_n 0, 1) := by decide +kernel
theorem dL_arePupils_725 : decode cL_arePupils 725 = .ok (.bipush 9, 2) := by decide +kernel
theorem dL_arePupils_727 : decode cL_arePupils 727 = .ok (.invokevirtual 14, 3) := by decide +kernel
theorem dL_arePupils_730 : decode cL_arePupils 730 = .ok (.iadd, 1) := by decide +kernel
theorem dL_arePupils_731 : decode cL_arePupils 731 = .ok (.aload_n 0, 1) := by decide +kernel
theorem dL_arePupils_732 : decode cL_arePupils 732 = .ok (.bipush 10, 2) := by decide +kernel
theorem dL_arePupils_734 : decode cL_arePupils 734 = .ok (.invokevirtual 14, 3) := by decide +kernel
theorem dL_arePupils_737 : decode cL_arePupils 737 = .ok (.iadd, 1) := by decide +kernel
theorem dL_arePupils_738 : decode cL_arePupils 738 = .ok (.if_icmp .ne 32, 3) := by decide +kernel
theorem dL_arePupils_741 : decode cL_arePupils 741 = .ok (.iload 9, 2) := by decide +kernel
theorem dL_arePupils_743 : decode cL_arePupils 743 = .ok (.iload 7, 2) := by decide +kernel
theorem dL_arePupils_745 : decode cL_arePupils 745 = .ok (.if_icmp .ne 25, 3) := by decide +kernel
theorem dL_arePupils_748 : decode cL_arePupils 748 = .ok (.iload 10, 2) := by decide +kernel
theorem dL_arePupils_750 : decode cL_arePupils 750 = .ok (.iload 5, 2) := by decide +kernel
theorem dL_arePupils_752 : decode cL_arePupils 752 = .ok (.if_icmp .ne 18, 3) := by decide +kernel
theorem dL_arePupils_755 : decode cL_arePupils 755 = .ok (.iload 11, 2) := by decide +kernel
theorem dL_arePupils_757 : decode cL_arePupils 757 = .ok (.aload_n 0, 1) := by decide +kernel
theorem dL_arePupils_758 : decode cL_arePupils 758 = .ok (.bipush 17, 2) := by decide +kernel
theorem dL_arePupils_760 : decode cL_arePupils 760 = .ok (.invokevirtual 14, 3) := by decide +kernel
theorem dL_arePupils_763 : decode cL_arePupils 763 = .ok (.if_icmp .ne 7, 3) := by decide +kernel
theorem dL_arePupils_766 : decode cL_arePupils 766 = .ok (.iconst 1, 1) := by decide +kernel
theorem dL_arePupils_767 : decode cL_arePupils 767 = .ok (.goto 4, 3) := by decide +kernel
theorem dL_arePupils_770 : decode cL_arePupils 770 = .ok (.iconst 0, 1) := by decide +kernel
theorem dL_arePupils_771 : decode cL_arePupils 771 = .ok (.ireturn, 1) := by decide +kernel
end
section
set_option maxRecDepth 20000 in
theorem ggL_refusesAny_X4_count : GoodIn wsL_refusesAny wsX4_count := goodIn_r _ [5, 6, 7, 8, 9, 10, 11, 12, 13, 14, 15, 16, 17, 18, 19, 20, 21, 22, 4, 23, 24, 25, 26, 27, 28, 29, 30, 31, 32, 33, 34, 35, 36, 37, 38, 39, 40, 41, 42, 43, 44, 45, 46, 47, 48, 49, 50, 51, 52, 53, 54, 55, 56, 298, 299, 300, 301, 302, 303, 304, 305, 306, 307, 308, 309, 310, 311, 312, 313, 314, 315, 316, 317, 318, 319, 320, 321, 322, 323] (by decide +kernel) (by decide +kernel)
set_option maxRecDepth 20000 in
theorem gL_refusesAny_X4_count : GoodIn wsL_refusesAny (wsV RL 14 RX4 yX4_count wsX4_count) := goodIn_app (goodIn_of _ (by decide +kernel)) ggL_refusesAny_X4_count
set_option maxRecDepth 20000 in
theorem ggL_refusesAny_X4_set : GoodIn wsL_refusesAny wsX4_set := goodIn_r _ [60, 6, 61, 62, 19, 7, 8, 21, 22, 4, 23, 63, 64, 65, 66, 67, 68, 69, 70, 71, 72, 44, 73, 74, 75, 76, 30, 77, 41, 32, 78, 79, 80, 50, 81, 82, 83, 84, 85, 86, 87, 88, 89, 90, 91, 92, 93, 94, 95, 96, 298, 299, 300, 301, 302, 303, 304, 305, 306, 307, 308, 309, 310, 311, 312, 313, 314, 315, 316, 317, 318, 321, 322, 323] (by decide +kernel) (by decide +kernel)
set_option maxRecDepth 20000 in
theorem gL_refusesAny_X4_set : GoodIn wsL_refusesAny (wsV RL 35 RX4 yX4_set wsX4_set) := goodIn_app (goodIn_of _ (by decide +kernel)) ggL_refusesAny_X4_set
set_option maxRecDepth 20000 in
theorem ggL_refusesAny_X4_add : GoodIn wsL_refusesAny wsX4_add := goodIn_r _ [100, 7, 9, 19, 21, 22, 4, 23, 63, 64, 65, 66, 67, 68, 69, 70, 71, 72, 44, 73, 74, 75, 76, 30, 77, 41, 32, 78, 79, 80, 50, 81, 82, 83, 84, 85, 86, 87, 88, 89, 90, 91, 92, 93, 94, 95, 96, 101, 102, 103, 104, 298, 299, 300, 301, 302, 303, 304, 305, 306, 307, 308, 309, 310, 311, 312, 313, 314, 315, 316, 317, 318, 321, 322, 323] (by decide +kernel) (by decide +kernel)
set_option maxRecDepth 20000 in
theorem gL_refusesAny_X4_add : GoodIn wsL_refusesAny (wsV RL 38 RX4 yX4_add wsX4_add) := goodIn_app (goodIn_of _ (by decide +kernel)) ggL_refusesAny_X4_add
set_option maxRecDepth 20000 in
theorem ggL_refusesAny_X4_worth : GoodIn wsL_refusesAny wsX4_worth := goodIn_r _ [108, 7, 19, 109, 110, 111, 112, 30, 113, 32, 21, 22, 4, 23, 63, 64, 65, 66, 67, 68, 69, 70, 71, 72, 44, 73, 74, 75, 76, 77, 41, 78, 79, 80, 50, 81, 82, 83, 84, 85, 86, 87, 88, 89, 90, 91, 92, 93, 94, 95, 96, 298, 299, 300, 301, 302, 303, 304, 305, 306, 307, 308, 309, 310, 311, 312, 313, 314, 315, 316, 317, 318, 321, 322, 323] (by decide +kernel) (by decide +kernel)
set_option maxRecDepth 20000 in
theorem gL_refusesAny_X4_worth : GoodIn wsL_refusesAny (wsV RL 41 RX4 yX4_worth wsX4_worth) := goodIn_app (goodIn_of _ (by decide +kernel)) ggL_refusesAny_X4_worth
set_option maxRecDepth 20000 in
theorem ggL_refusesAny_X4_offer : GoodIn wsL_refusesAny wsX4_offer := goodIn_r _ [117, 19, 7, 118, 119, 120, 4, 121, 122, 123, 124, 21, 22, 23, 110, 111, 112, 30, 113, 32, 63, 64, 65, 66, 67, 68, 69, 70, 71, 72, 44, 73, 74, 75, 76, 77, 41, 78, 79, 80, 50, 81, 82, 83, 84, 85, 86, 87, 88, 89, 90, 91, 92, 93, 94, 95, 96, 125, 126, 127, 128, 129, 130, 131, 132, 133, 134, 135, 136, 137, 138, 139, 140, 37, 38, 39, 40, 42, 43, 45, 46, 47, 48, 49, 51, 52, 53, 54, 55, 56, 141, 142, 143, 144, 145, 146, 147, 148, 149, 150, 151, 152, 153, 154, 155, 156, 157, 158, 159, 160, 161, 298, 299, 300, 301, 302, 303, 304, 305, 306, 307, 308, 309, 310, 311, 312, 313, 314, 315, 316, 317, 318, 321, 322, 323] (by decide +kernel) (by decide +kernel)
set_option maxRecDepth 20000 in
theorem gL_refusesAny_X4_offer : GoodIn wsL_refusesAny (wsV RL 44 RX4 yX4_offer wsX4_offer) := goodIn_app (goodIn_of _ (by decide +kernel)) ggL_refusesAny_X4_offer
set_option maxRecDepth 20000 in
theorem ggL_refusesAny_X4_pay : GoodIn wsL_refusesAny wsX4_pay := goodIn_r _ [165, 7, 12, 19, 13, 122, 123, 4, 124, 21, 22, 23, 63, 64, 65, 66, 67, 68, 69, 70, 71, 72, 44, 73, 74, 75, 76, 30, 77, 41, 32, 78, 79, 80, 50, 81, 82, 83, 84, 85, 86, 87, 88, 89, 90, 91, 92, 93, 94, 95, 96, 298, 299, 300, 301, 302, 303, 304, 305, 306, 307, 308, 309, 310, 311, 312, 313, 314, 315, 316, 317, 318, 321, 322, 323] (by decide +kernel) (by decide +kernel)
set_option maxRecDepth 20000 in
theorem gL_refusesAny_X4_pay : GoodIn wsL_refusesAny (wsV RL 48 RX4 yX4_pay wsX4_pay) := goodIn_app (goodIn_of _ (by decide +kernel)) ggL_refusesAny_X4_pay
set_option maxRecDepth 20000 in
theorem ggL_refusesAny_X4_pupil : GoodIn wsL_refusesAny wsX4_pupil := goodIn_r _ [169, 7, 15, 12, 10, 170, 171, 16, 13, 122, 123, 4, 124, 21, 22, 23, 172, 173, 174, 30, 175, 133, 134, 135, 136, 50, 176, 51, 52, 298, 299, 300, 301, 302, 303, 304, 305, 306, 307, 308, 309, 310, 311, 312, 313, 314, 315, 316, 317, 318] (by decide +kernel) (by decide +kernel)
set_option maxRecDepth 20000 in
theorem gL_refusesAny_X4_pupil : GoodIn wsL_refusesAny (wsV RL 20 RX4 yX4_pupil wsX4_pupil) := goodIn_app (goodIn_of _ (by decide +kernel)) ggL_refusesAny_X4_pupil
set_option maxRecDepth 20000 in
theorem ggL_refusesAny_X4_excuse : GoodIn wsL_refusesAny wsX4_excuse := goodIn_r _ [180, 7, 181, 109, 182, 110, 111, 112, 30, 113, 32, 183, 47, 48, 49, 50, 184, 185, 186, 187, 133, 134, 135, 136, 298, 299, 300, 301, 302, 303, 304, 305, 306, 307, 308, 309, 310, 311, 312, 313, 314, 315, 316, 317, 318] (by decide +kernel) (by decide +kernel)
set_option maxRecDepth 20000 in
theorem gL_refusesAny_X4_excuse : GoodIn wsL_refusesAny (wsV RL 24 RX4 yX4_excuse wsX4_excuse) := goodIn_app (goodIn_of _ (by decide +kernel)) ggL_refusesAny_X4_excuse
set_option maxRecDepth 20000 in
theorem ggL_refusesAny_X4_novelty : GoodIn wsL_refusesAny wsX4_novelty := goodIn_r _ [191, 7, 122, 123, 4, 124, 21, 22, 23, 110, 111, 112, 30, 113, 32, 192, 38, 39, 40, 41, 42, 43, 44, 45, 46, 47, 48, 49, 50, 51, 52, 53, 54, 55, 56, 298, 299, 300, 301, 302, 303, 304, 305, 306, 307, 308, 309, 310, 311, 312, 313, 314, 315, 316, 317, 318] (by decide +kernel) (by decide +kernel)
set_option maxRecDepth 20000 in
theorem gL_refusesAny_X4_novelty : GoodIn wsL_refusesAny (wsV RL 27 RX4 yX4_novelty wsX4_novelty) := goodIn_app (goodIn_of _ (by decide +kernel)) ggL_refusesAny_X4_novelty
set_option maxRecDepth 20000 in
theorem ggL_refusesAny_X4_why : GoodIn wsL_refusesAny wsX4_why := goodIn_r _ [196, 7, 118, 119, 120, 4, 121, 122, 123, 124, 21, 22, 23, 110, 111, 112, 30, 113, 32, 197, 130, 131, 132, 41, 86, 78, 81, 133, 134, 135, 136, 50, 137, 138, 139, 140, 79, 87, 37, 38, 39, 40, 42, 43, 44, 45, 46, 47, 48, 49, 51, 52, 53, 54, 55, 56, 141, 142, 143, 144, 298, 299, 300, 301, 302, 303, 304, 305, 306, 307, 308, 309, 310, 311, 312, 313, 314, 315, 316, 317, 318] (by decide +kernel) (by decide +kernel)
set_option maxRecDepth 20000 in
theorem gL_refusesAny_X4_why : GoodIn wsL_refusesAny (wsV RL 51 RX4 yX4_why wsX4_why) := goodIn_app (goodIn_of _ (by decide +kernel)) ggL_refusesAny_X4_why
set_option maxRecDepth 20000 in
theorem ggL_refusesAny_X4_weight : GoodIn wsL_refusesAny wsX4_weight := goodIn_r _ [201, 7, 118, 119, 120, 4, 121, 122, 123, 124, 21, 22, 23, 110, 111, 112, 30, 113, 32, 202, 138, 139, 140, 79, 41, 87, 37, 38, 39, 40, 42, 43, 44, 45, 46, 47, 48, 49, 50, 51, 52, 53, 54, 55, 56, 141, 142, 143, 144, 81, 298, 299, 300, 301, 302, 303, 304, 305, 306, 307, 308, 309, 310, 311, 312, 313, 314, 315, 316, 317, 318] (by decide +kernel) (by decide +kernel)
set_option maxRecDepth 20000 in
theorem gL_refusesAny_X4_weight : GoodIn wsL_refusesAny (wsV RL 54 RX4 yX4_weight wsX4_weight) := goodIn_app (goodIn_of _ (by decide +kernel)) ggL_refusesAny_X4_weight
set_option maxRecDepth 20000 in
theorem ggL_refusesAny_X4_bestWitness : GoodIn wsL_refusesAny wsX4_bestWitness := goodIn_r _ [206, 7, 15, 122, 123, 4, 124, 21, 22, 23, 110, 111, 112, 30, 113, 32, 202, 138, 139, 140, 79, 41, 87, 37, 38, 39, 40, 42, 43, 44, 45, 46, 47, 48, 49, 50, 51, 52, 53, 54, 55, 56, 141, 142, 143, 144, 81, 298, 299, 300, 301, 302, 303, 304, 305, 306, 307, 308, 309, 310, 311, 312, 313, 314, 315, 316, 317, 318] (by decide +kernel) (by decide +kernel)
set_option maxRecDepth 20000 in
theorem gL_refusesAny_X4_bestWitness : GoodIn wsL_refusesAny (wsV RL 57 RX4 yX4_bestWitness wsX4_bestWitness) := goodIn_app (goodIn_of _ (by decide +kernel)) ggL_refusesAny_X4_bestWitness
set_option maxRecDepth 20000 in
theorem ggL_refusesAny_X4_bestExcuse : GoodIn wsL_refusesAny wsX4_bestExcuse := goodIn_r _ [210, 7, 9, 122, 123, 4, 124, 21, 22, 23, 197, 130, 131, 30, 132, 41, 86, 78, 81, 133, 134, 135, 136, 50, 137, 138, 139, 140, 79, 87, 37, 38, 39, 40, 42, 43, 44, 45, 46, 47, 48, 49, 51, 52, 53, 54, 55, 56, 141, 142, 143, 144, 202, 298, 299, 300, 301, 302, 303, 304, 305, 306, 307, 308, 309, 310, 311, 312, 313, 314, 315, 316, 317, 318] (by decide +kernel) (by decide +kernel)
set_option maxRecDepth 20000 in
theorem gL_refusesAny_X4_bestExcuse : GoodIn wsL_refusesAny (wsV RL 61 RX4 yX4_bestExcuse wsX4_bestExcuse) := goodIn_app (goodIn_of _ (by decide +kernel)) ggL_refusesAny_X4_bestExcuse
set_option maxRecDepth 20000 in
theorem ggL_refusesAny_X4_mostMinutes : GoodIn wsL_refusesAny wsX4_mostMinutes := goodIn_r _ [214, 7, 122, 123, 4, 124, 21, 22, 23, 110, 111, 112, 30, 113, 32, 197, 130, 131, 132, 41, 86, 78, 81, 133, 134, 135, 136, 50, 137, 138, 139, 140, 79, 87, 37, 38, 39, 40, 42, 43, 44, 45, 46, 47, 48, 49, 51, 52, 53, 54, 55, 56, 141, 142, 143, 144, 298, 299, 300, 301, 302, 303, 304, 305, 306, 307, 308, 309, 310, 311, 312, 313, 314, 315, 316, 317, 318] (by decide +kernel) (by decide +kernel)
set_option maxRecDepth 20000 in
theorem gL_refusesAny_X4_mostMinutes : GoodIn wsL_refusesAny (wsV RL 64 RX4 yX4_mostMinutes wsX4_mostMinutes) := goodIn_app (goodIn_of _ (by decide +kernel)) ggL_refusesAny_X4_mostMinutes
set_option maxRecDepth 20000 in
theorem ggL_refusesAny_X4_save : GoodIn wsL_refusesAny wsX4_save := goodIn_r _ [218, 219, 7, 220, 14, 21, 22, 4, 23, 221, 75, 76, 30, 77, 41, 32, 78, 79, 80, 50, 81, 82, 83, 84, 85, 86, 87, 88, 89, 90, 91, 92, 72, 44, 73, 93, 94, 95, 96, 298, 299, 300, 301, 302, 303, 304, 305, 306, 307, 308, 309, 310, 311, 312, 313, 314, 315, 316, 317, 318] (by decide +kernel) (by decide +kernel)
set_option maxRecDepth 20000 in
theorem gL_refusesAny_X4_save : GoodIn wsL_refusesAny (wsV RL 67 RX4 yX4_save wsX4_save) := goodIn_app (goodIn_of _ (by decide +kernel)) ggL_refusesAny_X4_save
set_option maxRecDepth 20000 in
theorem ggL_refusesAny_X4_restore : GoodIn wsL_refusesAny wsX4_restore := goodIn_r _ [225, 220, 19, 7, 219, 14, 21, 22, 4, 23, 63, 64, 65, 66, 67, 68, 69, 70, 71, 72, 44, 73, 74, 75, 76, 30, 77, 41, 32, 78, 79, 80, 50, 81, 82, 83, 84, 85, 86, 87, 88, 89, 90, 91, 92, 93, 94, 95, 96, 221, 298, 299, 300, 301, 302, 303, 304, 305, 306, 307, 308, 309, 310, 311, 312, 313, 314, 315, 316, 317, 318, 321, 322, 323] (by decide +kernel) (by decide +kernel)
set_option maxRecDepth 20000 in
theorem gL_refusesAny_X4_restore : GoodIn wsL_refusesAny (wsV RL 70 RX4 yX4_restore wsX4_restore) := goodIn_app (goodIn_of _ (by decide +kernel)) ggL_refusesAny_X4_restore
set_option maxRecDepth 20000 in
theorem ggL_refusesAny_X4_wipe : GoodIn wsL_refusesAny wsX4_wipe := goodIn_r _ [229, 17, 18, 298, 299, 300, 301, 302, 303, 319, 320] (by decide +kernel) (by decide +kernel)
set_option maxRecDepth 20000 in
theorem gL_refusesAny_X4_wipe : GoodIn wsL_refusesAny (wsV RL 73 RX4 yX4_wipe wsX4_wipe) := goodIn_app (goodIn_of _ (by decide +kernel)) ggL_refusesAny_X4_wipe
set_option maxRecDepth 20000 in
theorem ggL_refusesAny_X4_read : GoodIn wsL_refusesAny wsX4_read := goodIn_r _ [233, 19, 7, 234, 17, 18, 235, 236, 237, 238, 4, 239, 240, 241, 242, 243, 244, 245, 246, 247, 248, 249, 250, 251, 252, 253, 254, 255, 256, 257, 258, 259, 22, 23, 260, 261, 262, 263, 264, 265, 266, 267, 268, 269, 270, 271, 272, 273, 274, 275, 276, 277, 278, 279, 280, 281, 282, 283, 284, 285, 286, 287, 288, 63, 64, 65, 66, 67, 68, 69, 70, 71, 72, 44, 73, 74, 75, 76, 30, 77, 41, 32, 78, 79, 80, 50, 81, 82, 83, 84, 85, 86, 87, 88, 89, 90, 91, 92, 93, 94, 95, 96, 289, 290, 291, 292, 293, 294, 295, 296, 110, 111, 112, 113, 125, 126, 127, 128, 129, 130, 131, 132, 133, 134, 135, 136, 137, 138, 139, 140, 37, 38, 39, 40, 42, 43, 45, 46, 47, 48, 49, 51, 52, 53, 54, 55, 56, 141, 142, 143, 144, 145, 146, 147, 148, 149, 150, 151, 152, 153, 154, 155, 156, 157, 158, 159, 160, 161, 298, 299, 300, 301, 302, 303, 319, 320, 324, 325, 326, 327, 328, 321, 322, 323, 304, 305, 306, 307, 308, 309, 310, 311, 312, 313, 314, 315, 316, 317, 318] (by decide +kernel) (by decide +kernel)
set_option maxRecDepth 20000 in
theorem gL_refusesAny_X4_read : GoodIn wsL_refusesAny (wsV RL 77 RX4 yX4_read wsX4_read) := goodIn_app (goodIn_of _ (by decide +kernel)) ggL_refusesAny_X4_read
set_option maxRecDepth 20000 in
theorem ggL_refusesAny_X4_fault : GoodIn wsL_refusesAny wsX4_fault := goodIn_r _ [239, 234, 17, 18, 235, 240, 241, 242, 243, 244, 245, 246, 247, 248, 249, 250, 251, 252, 253, 254, 255, 256, 257, 258, 259, 22, 4, 23, 260, 261, 262, 263, 264, 265, 266, 267, 268, 269, 270, 271, 272, 273, 274, 275, 276, 277, 278, 279, 280, 281, 282, 283, 284, 285, 286, 287, 288, 298, 299, 300, 301, 302, 303, 319, 320, 324, 325, 326, 327, 328] (by decide +kernel) (by decide +kernel)
set_option maxRecDepth 20000 in
theorem gL_refusesAny_X4_fault : GoodIn wsL_refusesAny (wsV RL 80 RX4 yX4_fault wsX4_fault) := goodIn_app (goodIn_of _ (by decide +kernel)) ggL_refusesAny_X4_fault
theorem dL_refusesAny_0 : decode cL_refusesAny 0 = .ok (.iload_n 1, 1) := by decide +kernel
theorem dL_refusesAny_1 : decode cL_refusesAny 1 = .ok (.iconst 2, 1) := by decide +kernel
theorem dL_refusesAny_2 : decode cL_refusesAny 2 = .ok (.irem, 1) := by decide +kernel
theorem dL_refusesAny_3 : decode cL_refusesAny 3 = .ok (.ifCond .ne 11, 3) := by decide +kernel
theorem dL_refusesAny_6 : decode cL_refusesAny 6 = .ok (.iconst (-1), 1) := by decide +kernel
theorem dL_refusesAny_7 : decode cL_refusesAny 7 = .ok (.iload_n 1, 1) := by decide +kernel
theorem dL_refusesAny_8 : decode cL_refusesAny 8 = .ok (.iconst 5, 1) := by decide +kernel
theorem dL_refusesAny_9 : decode cL_refusesAny 9 = .ok (.irem, 1) := by decide +kernel
theorem dL_refusesAny_10 : decode cL_refusesAny 10 = .ok (.isub, 1) := by decide +kernel
theorem dL_refusesAny_11 : decode cL_refusesAny 11 = .ok (.goto 10, 3) := by decide +kernel
theorem dL_refusesAny_14 : decode cL_refusesAny 14 = .ok (.bipush 10, 2) := by decide +kernel
theorem dL_refusesAny_16 : decode cL_refusesAny 16 = .ok (.iload_n 1, 1) := by decide +kernel
theorem dL_refusesAny_17 : decode cL_refusesAny 17 = .ok (.bipush 99, 2) := by decide +kernel
theorem dL_refusesAny_19 : decode cL_refusesAny 19 = .ok (.irem, 1) := by decide +kernel
theorem dL_refusesAny_20 : decode cL_refusesAny 20 = .ok (.iadd, 1) := by decide +kernel
theorem dL_refusesAny_21 : decode cL_refusesAny 21 = .ok (.istore_n 2, 1) := by decide +kernel
theorem dL_refusesAny_22 : decode cL_refusesAny 22 = .ok (.iload_n 1, 1) := by decide +kernel
theorem dL_refusesAny_23 : decode cL_refusesAny 23 = .ok (.iconst 2, 1) := by decide +kernel
theorem dL_refusesAny_24 : decode cL_refusesAny 24 = .ok (.irem, 1) := by decide +kernel
theorem dL_refusesAny_25 : decode cL_refusesAny 25 = .ok (.ifCond .ne 12, 3) := by decide +kernel
theorem dL_refusesAny_28 : decode cL_refusesAny 28 = .ok (.iconst (-1), 1) := by decide +kernel
theorem dL_refusesAny_29 : decode cL_refusesAny 29 = .ok (.iload_n 1, 1) := by decide +kernel
theorem dL_refusesAny_30 : decode cL_refusesAny 30 = .ok (.bipush 99, 2) := by decide +kernel
theorem dL_refusesAny_32 : decode cL_refusesAny 32 = .ok (.irem, 1) := by decide +kernel
theorem dL_refusesAny_33 : decode cL_refusesAny 33 = .ok (.isub, 1) := by decide +kernel
theorem dL_refusesAny_34 : decode cL_refusesAny 34 = .ok (.goto 13, 3) := by decide +kernel
theorem dL_refusesAny_37 : decode cL_refusesAny 37 = .ok (.aload_n 0, 1) := by decide +kernel
theorem dL_refusesAny_38 : decode cL_refusesAny 38 = .ok (.iconst 5, 1) := by decide +kernel
theorem dL_refusesAny_39 : decode cL_refusesAny 39 = .ok (.invokevirtual 14, 3) := by decide +kernel
theorem dL_refusesAny_42 : decode cL_refusesAny 42 = .ok (.iload_n 1, 1) := by decide +kernel
theorem dL_refusesAny_43 : decode cL_refusesAny 43 = .ok (.bipush 99, 2) := by decide +kernel
theorem dL_refusesAny_45 : decode cL_refusesAny 45 = .ok (.irem, 1) := by decide +kernel
theorem dL_refusesAny_46 : decode cL_refusesAny 46 = .ok (.iadd, 1) := by decide +kernel
theorem dL_refusesAny_47 : decode cL_refusesAny 47 = .ok (.istore_n 3, 1) := by decide +kernel
theorem dL_refusesAny_48 : decode cL_refusesAny 48 = .ok (.iload_n 1, 1) := by decide +kernel
theorem dL_refusesAny_49 : decode cL_refusesAny 49 = .ok (.iconst 2, 1) := by decide +kernel
theorem dL_refusesAny_50 : decode cL_refusesAny 50 = .ok (.irem, 1) := by decide +kernel
theorem dL_refusesAny_51 : decode cL_refusesAny 51 = .ok (.ifCond .ne 11, 3) := by decide +kernel
theorem dL_refusesAny_54 : decode cL_refusesAny 54 = .ok (.iload_n 1, 1) := by decide +kernel
theorem dL_refusesAny_55 : decode cL_refusesAny 55 = .ok (.ineg, 1) := by decide +kernel
theorem dL_refusesAny_56 : decode cL_refusesAny 56 = .ok (.bipush 99, 2) := by decide +kernel
theorem dL_refusesAny_58 : decode cL_refusesAny 58 = .ok (.irem, 1) := by decide +kernel
theorem dL_refusesAny_59 : decode cL_refusesAny 59 = .ok (.goto 10, 3) := by decide +kernel
theorem dL_refusesAny_62 : decode cL_refusesAny 62 = .ok (.bipush 100, 2) := by decide +kernel
theorem dL_refusesAny_64 : decode cL_refusesAny 64 = .ok (.iload_n 1, 1) := by decide +kernel
theorem dL_refusesAny_65 : decode cL_refusesAny 65 = .ok (.bipush 99, 2) := by decide +kernel
theorem dL_refusesAny_67 : decode cL_refusesAny 67 = .ok (.irem, 1) := by decide +kernel
theorem dL_refusesAny_68 : decode cL_refusesAny 68 = .ok (.iadd, 1) := by decide +kernel
theorem dL_refusesAny_69 : decode cL_refusesAny 69 = .ok (.istore 4, 2) := by decide +kernel
theorem dL_refusesAny_71 : decode cL_refusesAny 71 = .ok (.iload_n 1, 1) := by decide +kernel
theorem dL_refusesAny_72 : decode cL_refusesAny 72 = .ok (.bipush 10, 2) := by decide +kernel
theorem dL_refusesAny_74 : decode cL_refusesAny 74 = .ok (.irem, 1) := by decide +kernel
theorem dL_refusesAny_75 : decode cL_refusesAny 75 = .ok (.istore 5, 2) := by decide +kernel
theorem dL_refusesAny_77 : decode cL_refusesAny 77 = .ok (.aload_n 0, 1) := by decide +kernel
theorem dL_refusesAny_78 : decode cL_refusesAny 78 = .ok (.iconst 5, 1) := by decide +kernel
theorem dL_refusesAny_79 : decode cL_refusesAny 79 = .ok (.invokevirtual 14, 3) := by decide +kernel
theorem dL_refusesAny_82 : decode cL_refusesAny 82 = .ok (.ifCond .le 7, 3) := by decide +kernel
theorem dL_refusesAny_85 : decode cL_refusesAny 85 = .ok (.iconst 1, 1) := by decide +kernel
theorem dL_refusesAny_86 : decode cL_refusesAny 86 = .ok (.goto 4, 3) := by decide +kernel
theorem dL_refusesAny_89 : decode cL_refusesAny 89 = .ok (.iconst 0, 1) := by decide +kernel
theorem dL_refusesAny_90 : decode cL_refusesAny 90 = .ok (.istore 6, 2) := by decide +kernel
theorem dL_refusesAny_92 : decode cL_refusesAny 92 = .ok (.aload_n 0, 1) := by decide +kernel
theorem dL_refusesAny_93 : decode cL_refusesAny 93 = .ok (.iload_n 1, 1) := by decide +kernel
theorem dL_refusesAny_94 : decode cL_refusesAny 94 = .ok (.iconst 2, 1) := by decide +kernel
theorem dL_refusesAny_95 : decode cL_refusesAny 95 = .ok (.irem, 1) := by decide +kernel
theorem dL_refusesAny_96 : decode cL_refusesAny 96 = .ok (.ifCond .ne 7, 3) := by decide +kernel
theorem dL_refusesAny_99 : decode cL_refusesAny 99 = .ok (.iconst (-1), 1) := by decide +kernel
theorem dL_refusesAny_100 : decode cL_refusesAny 100 = .ok (.goto 4, 3) := by decide +kernel
theorem dL_refusesAny_103 : decode cL_refusesAny 103 = .ok (.iconst 5, 1) := by decide +kernel
theorem dL_refusesAny_104 : decode cL_refusesAny 104 = .ok (.iconst 5, 1) := by decide +kernel
theorem dL_refusesAny_105 : decode cL_refusesAny 105 = .ok (.invokevirtual 35, 3) := by decide +kernel
theorem dL_refusesAny_108 : decode cL_refusesAny 108 = .ok (.bipush (-2), 2) := by decide +kernel
theorem dL_refusesAny_110 : decode cL_refusesAny 110 = .ok (.if_icmp .ne 364, 3) := by decide +kernel
theorem dL_refusesAny_113 : decode cL_refusesAny 113 = .ok (.aload_n 0, 1) := by decide +kernel
theorem dL_refusesAny_114 : decode cL_refusesAny 114 = .ok (.iconst 0, 1) := by decide +kernel
theorem dL_refusesAny_115 : decode cL_refusesAny 115 = .ok (.iload_n 1, 1) := by decide +kernel
theorem dL_refusesAny_116 : decode cL_refusesAny 116 = .ok (.iconst 2, 1) := by decide +kernel
theorem dL_refusesAny_117 : decode cL_refusesAny 117 = .ok (.irem, 1) := by decide +kernel
theorem dL_refusesAny_118 : decode cL_refusesAny 118 = .ok (.ifCond .ne 7, 3) := by decide +kernel
theorem dL_refusesAny_121 : decode cL_refusesAny 121 = .ok (.iconst 0, 1) := by decide +kernel
theorem dL_refusesAny_122 : decode cL_refusesAny 122 = .ok (.goto 5, 3) := by decide +kernel
theorem dL_refusesAny_125 : decode cL_refusesAny 125 = .ok (.bipush 100, 2) := by decide +kernel
theorem dL_refusesAny_127 : decode cL_refusesAny 127 = .ok (.invokevirtual 35, 3) := by decide +kernel
theorem dL_refusesAny_130 : decode cL_refusesAny 130 = .ok (.bipush (-2), 2) := by decide +kernel
theorem dL_refusesAny_132 : decode cL_refusesAny 132 = .ok (.if_icmp .ne 342, 3) := by decide +kernel
theorem dL_refusesAny_135 : decode cL_refusesAny 135 = .ok (.aload_n 0, 1) := by decide +kernel
theorem dL_refusesAny_136 : decode cL_refusesAny 136 = .ok (.iconst 1, 1) := by decide +kernel
theorem dL_refusesAny_137 : decode cL_refusesAny 137 = .ok (.iload_n 1, 1) := by decide +kernel
theorem dL_refusesAny_138 : decode cL_refusesAny 138 = .ok (.iconst 2, 1) := by decide +kernel
theorem dL_refusesAny_139 : decode cL_refusesAny 139 = .ok (.irem, 1) := by decide +kernel
theorem dL_refusesAny_140 : decode cL_refusesAny 140 = .ok (.ifCond .ne 7, 3) := by decide +kernel
theorem dL_refusesAny_143 : decode cL_refusesAny 143 = .ok (.iconst (-1), 1) := by decide +kernel
theorem dL_refusesAny_144 : decode cL_refusesAny 144 = .ok (.goto 5, 3) := by decide +kernel
theorem dL_refusesAny_147 : decode cL_refusesAny 147 = .ok (.bipush 51, 2) := by decide +kernel
theorem dL_refusesAny_149 : decode cL_refusesAny 149 = .ok (.invokevirtual 35, 3) := by decide +kernel
theorem dL_refusesAny_152 : decode cL_refusesAny 152 = .ok (.bipush (-2), 2) := by decide +kernel
theorem dL_refusesAny_154 : decode cL_refusesAny 154 = .ok (.if_icmp .ne 320, 3) := by decide +kernel
theorem dL_refusesAny_157 : decode cL_refusesAny 157 = .ok (.aload_n 0, 1) := by decide +kernel
theorem dL_refusesAny_158 : decode cL_refusesAny 158 = .ok (.iconst 2, 1) := by decide +kernel
theorem dL_refusesAny_159 : decode cL_refusesAny 159 = .ok (.iload_n 1, 1) := by decide +kernel
theorem dL_refusesAny_160 : decode cL_refusesAny 160 = .ok (.iconst 2, 1) := by decide +kernel
theorem dL_refusesAny_161 : decode cL_refusesAny 161 = .ok (.irem, 1) := by decide +kernel
theorem dL_refusesAny_162 : decode cL_refusesAny 162 = .ok (.ifCond .ne 7, 3) := by decide +kernel
theorem dL_refusesAny_165 : decode cL_refusesAny 165 = .ok (.iconst 0, 1) := by decide +kernel
theorem dL_refusesAny_166 : decode cL_refusesAny 166 = .ok (.goto 5, 3) := by decide +kernel
theorem dL_refusesAny_169 : decode cL_refusesAny 169 = .ok (.bipush 10, 2) := by decide +kernel
theorem dL_refusesAny_171 : decode cL_refusesAny 171 = .ok (.invokevirtual 35, 3) := by decide +kernel
theorem dL_refusesAny_174 : decode cL_refusesAny 174 = .ok (.bipush (-2), 2) := by decide +kernel
theorem dL_refusesAny_176 : decode cL_refusesAny 176 = .ok (.if_icmp .ne 298, 3) := by decide +kernel
theorem dL_refusesAny_179 : decode cL_refusesAny 179 = .ok (.aload_n 0, 1) := by decide +kernel
theorem dL_refusesAny_180 : decode cL_refusesAny 180 = .ok (.iconst 3, 1) := by decide +kernel
theorem dL_refusesAny_181 : decode cL_refusesAny 181 = .ok (.iload_n 1, 1) := by decide +kernel
theorem dL_refusesAny_182 : decode cL_refusesAny 182 = .ok (.iconst 2, 1) := by decide +kernel
theorem dL_refusesAny_183 : decode cL_refusesAny 183 = .ok (.irem, 1) := by decide +kernel
theorem dL_refusesAny_184 : decode cL_refusesAny 184 = .ok (.ifCond .ne 7, 3) := by decide +kernel
theorem dL_refusesAny_187 : decode cL_refusesAny 187 = .ok (.iconst 0, 1) := by decide +kernel
theorem dL_refusesAny_188 : decode cL_refusesAny 188 = .ok (.goto 5, 3) := by decide +kernel
theorem dL_refusesAny_191 : decode cL_refusesAny 191 = .ok (.bipush 61, 2) := by decide +kernel
theorem dL_refusesAny_193 : decode cL_refusesAny 193 = .ok (.invokevirtual 35, 3) := by decide +kernel
theorem dL_refusesAny_196 : decode cL_refusesAny 196 = .ok (.bipush (-2), 2) := by decide +kernel
theorem dL_refusesAny_198 : decode cL_refusesAny 198 = .ok (.if_icmp .ne 276, 3) := by decide +kernel
theorem dL_refusesAny_201 : decode cL_refusesAny 201 = .ok (.aload_n 0, 1) := by decide +kernel
theorem dL_refusesAny_202 : decode cL_refusesAny 202 = .ok (.iconst 4, 1) := by decide +kernel
theorem dL_refusesAny_203 : decode cL_refusesAny 203 = .ok (.iload_n 1, 1) := by decide +kernel
theorem dL_refusesAny_204 : decode cL_refusesAny 204 = .ok (.iconst 2, 1) := by decide +kernel
theorem dL_refusesAny_205 : decode cL_refusesAny 205 = .ok (.irem, 1) := by decide +kernel
theorem dL_refusesAny_206 : decode cL_refusesAny 206 = .ok (.ifCond .ne 7, 3) := by decide +kernel
theorem dL_refusesAny_209 : decode cL_refusesAny 209 = .ok (.iconst (-1), 1) := by decide +kernel
theorem dL_refusesAny_210 : decode cL_refusesAny 210 = .ok (.goto 5, 3) := by decide +kernel
theorem dL_refusesAny_213 : decode cL_refusesAny 213 = .ok (.bipush 21, 2) := by decide +kernel
theorem dL_refusesAny_215 : decode cL_refusesAny 215 = .ok (.invokevirtual 35, 3) := by decide +kernel
theorem dL_refusesAny_218 : decode cL_refusesAny 218 = .ok (.bipush (-2), 2) := by decide +kernel
theorem dL_refusesAny_220 : decode cL_refusesAny 220 = .ok (.if_icmp .ne 254, 3) := by decide +kernel
theorem dL_refusesAny_223 : decode cL_refusesAny 223 = .ok (.aload_n 0, 1) := by decide +kernel
theorem dL_refusesAny_224 : decode cL_refusesAny 224 = .ok (.iload_n 1, 1) := by decide +kernel
theorem dL_refusesAny_225 : decode cL_refusesAny 225 = .ok (.iconst 2, 1) := by decide +kernel
theorem dL_refusesAny_226 : decode cL_refusesAny 226 = .ok (.irem, 1) := by decide +kernel
theorem dL_refusesAny_227 : decode cL_refusesAny 227 = .ok (.ifCond .ne 7, 3) := by decide +kernel
theorem dL_refusesAny_230 : decode cL_refusesAny 230 = .ok (.iconst (-1), 1) := by decide +kernel
theorem dL_refusesAny_231 : decode cL_refusesAny 231 = .ok (.goto 4, 3) := by decide +kernel
theorem dL_refusesAny_234 : decode cL_refusesAny 234 = .ok (.iconst 5, 1) := by decide +kernel
theorem dL_refusesAny_235 : decode cL_refusesAny 235 = .ok (.iconst 5, 1) := by decide +kernel
theorem dL_refusesAny_236 : decode cL_refusesAny 236 = .ok (.invokevirtual 38, 3) := by decide +kernel
theorem dL_refusesAny_239 : decode cL_refusesAny 239 = .ok (.bipush (-2), 2) := by decide +kernel
theorem dL_refusesAny_241 : decode cL_refusesAny 241 = .ok (.if_icmp .ne 233, 3) := by decide +kernel
theorem dL_refusesAny_244 : decode cL_refusesAny 244 = .ok (.aload_n 0, 1) := by decide +kernel
theorem dL_refusesAny_245 : decode cL_refusesAny 245 = .ok (.iconst 0, 1) := by decide +kernel
theorem dL_refusesAny_246 : decode cL_refusesAny 246 = .ok (.iload_n 1, 1) := by decide +kernel
theorem dL_refusesAny_247 : decode cL_refusesAny 247 = .ok (.iconst 2, 1) := by decide +kernel
theorem dL_refusesAny_248 : decode cL_refusesAny 248 = .ok (.irem, 1) := by decide +kernel
theorem dL_refusesAny_249 : decode cL_refusesAny 249 = .ok (.ifCond .ne 7, 3) := by decide +kernel
theorem dL_refusesAny_252 : decode cL_refusesAny 252 = .ok (.iconst 0, 1) := by decide +kernel
theorem dL_refusesAny_253 : decode cL_refusesAny 253 = .ok (.goto 5, 3) := by decide +kernel
theorem dL_refusesAny_256 : decode cL_refusesAny 256 = .ok (.bipush 100, 2) := by decide +kernel
theorem dL_refusesAny_258 : decode cL_refusesAny 258 = .ok (.invokevirtual 38, 3) := by decide +kernel
theorem dL_refusesAny_261 : decode cL_refusesAny 261 = .ok (.bipush (-2), 2) := by decide +kernel
theorem dL_refusesAny_263 : decode cL_refusesAny 263 = .ok (.if_icmp .ne 211, 3) := by decide +kernel
theorem dL_refusesAny_266 : decode cL_refusesAny 266 = .ok (.aload_n 0, 1) := by decide +kernel
theorem dL_refusesAny_267 : decode cL_refusesAny 267 = .ok (.iconst 5, 1) := by decide +kernel
theorem dL_refusesAny_268 : decode cL_refusesAny 268 = .ok (.invokevirtual 14, 3) := by decide +kernel
theorem dL_refusesAny_271 : decode cL_refusesAny 271 = .ok (.bipush 12, 2) := by decide +kernel
theorem dL_refusesAny_273 : decode cL_refusesAny 273 = .ok (.if_icmp .lt 14, 3) := by decide +kernel
theorem dL_refusesAny_276 : decode cL_refusesAny 276 = .ok (.aload_n 0, 1) := by decide +kernel
theorem dL_refusesAny_277 : decode cL_refusesAny 277 = .ok (.iconst 0, 1) := by decide +kernel
theorem dL_refusesAny_278 : decode cL_refusesAny 278 = .ok (.iconst 5, 1) := by decide +kernel
theorem dL_refusesAny_279 : decode cL_refusesAny 279 = .ok (.invokevirtual 38, 3) := by decide +kernel
theorem dL_refusesAny_282 : decode cL_refusesAny 282 = .ok (.bipush (-4), 2) := by decide +kernel
theorem dL_refusesAny_284 : decode cL_refusesAny 284 = .ok (.if_icmp .ne 190, 3) := by decide +kernel
theorem dL_refusesAny_287 : decode cL_refusesAny 287 = .ok (.aload_n 0, 1) := by decide +kernel
theorem dL_refusesAny_288 : decode cL_refusesAny 288 = .ok (.iload_n 3, 1) := by decide +kernel
theorem dL_refusesAny_289 : decode cL_refusesAny 289 = .ok (.iconst 0, 1) := by decide +kernel
theorem dL_refusesAny_290 : decode cL_refusesAny 290 = .ok (.invokevirtual 41, 3) := by decide +kernel
theorem dL_refusesAny_293 : decode cL_refusesAny 293 = .ok (.iconst (-1), 1) := by decide +kernel
theorem dL_refusesAny_294 : decode cL_refusesAny 294 = .ok (.if_icmp .ne 180, 3) := by decide +kernel
theorem dL_refusesAny_297 : decode cL_refusesAny 297 = .ok (.iload 6, 2) := by decide +kernel
theorem dL_refusesAny_299 : decode cL_refusesAny 299 = .ok (.ifCond .eq 25, 3) := by decide +kernel
theorem dL_refusesAny_302 : decode cL_refusesAny 302 = .ok (.aload_n 0, 1) := by decide +kernel
theorem dL_refusesAny_303 : decode cL_refusesAny 303 = .ok (.iconst 0, 1) := by decide +kernel
theorem dL_refusesAny_304 : decode cL_refusesAny 304 = .ok (.iload_n 1, 1) := by decide +kernel
theorem dL_refusesAny_305 : decode cL_refusesAny 305 = .ok (.iconst 2, 1) := by decide +kernel
theorem dL_refusesAny_306 : decode cL_refusesAny 306 = .ok (.irem, 1) := by decide +kernel
theorem dL_refusesAny_307 : decode cL_refusesAny 307 = .ok (.ifCond .ne 7, 3) := by decide +kernel
theorem dL_refusesAny_310 : decode cL_refusesAny 310 = .ok (.iconst 0, 1) := by decide +kernel
theorem dL_refusesAny_311 : decode cL_refusesAny 311 = .ok (.goto 5, 3) := by decide +kernel
theorem dL_refusesAny_314 : decode cL_refusesAny 314 = .ok (.bipush 100, 2) := by decide +kernel
theorem dL_refusesAny_316 : decode cL_refusesAny 316 = .ok (.invokevirtual 41, 3) := by decide +kernel
theorem dL_refusesAny_319 : decode cL_refusesAny 319 = .ok (.bipush (-2), 2) := by decide +kernel
theorem dL_refusesAny_321 : decode cL_refusesAny 321 = .ok (.if_icmp .ne 153, 3) := by decide +kernel
theorem dL_refusesAny_324 : decode cL_refusesAny 324 = .ok (.aload_n 0, 1) := by decide +kernel
theorem dL_refusesAny_325 : decode cL_refusesAny 325 = .ok (.iload_n 2, 1) := by decide +kernel
theorem dL_refusesAny_326 : decode cL_refusesAny 326 = .ok (.iconst 0, 1) := by decide +kernel
theorem dL_refusesAny_327 : decode cL_refusesAny 327 = .ok (.bipush (-6), 2) := by decide +kernel
theorem dL_refusesAny_329 : decode cL_refusesAny 329 = .ok (.iload 4, 2) := by decide +kernel
theorem dL_refusesAny_331 : decode cL_refusesAny 331 = .ok (.invokevirtual 44, 3) := by decide +kernel
theorem dL_refusesAny_334 : decode cL_refusesAny 334 = .ok (.iconst (-1), 1) := by decide +kernel
theorem dL_refusesAny_335 : decode cL_refusesAny 335 = .ok (.if_icmp .ne 139, 3) := by decide +kernel
theorem dL_refusesAny_338 : decode cL_refusesAny 338 = .ok (.aload_n 0, 1) := by decide +kernel
theorem dL_refusesAny_339 : decode cL_refusesAny 339 = .ok (.iload 5, 2) := by decide +kernel
theorem dL_refusesAny_341 : decode cL_refusesAny 341 = .ok (.iload_n 3, 1) := by decide +kernel
theorem dL_refusesAny_342 : decode cL_refusesAny 342 = .ok (.bipush (-6), 2) := by decide +kernel
theorem dL_refusesAny_344 : decode cL_refusesAny 344 = .ok (.iload 4, 2) := by decide +kernel
theorem dL_refusesAny_346 : decode cL_refusesAny 346 = .ok (.invokevirtual 44, 3) := by decide +kernel
theorem dL_refusesAny_349 : decode cL_refusesAny 349 = .ok (.iconst (-1), 1) := by decide +kernel
theorem dL_refusesAny_350 : decode cL_refusesAny 350 = .ok (.if_icmp .ne 124, 3) := by decide +kernel
theorem dL_refusesAny_353 : decode cL_refusesAny 353 = .ok (.aload_n 0, 1) := by decide +kernel
theorem dL_refusesAny_354 : decode cL_refusesAny 354 = .ok (.iload 5, 2) := by decide +kernel
theorem dL_refusesAny_356 : decode cL_refusesAny 356 = .ok (.iconst 0, 1) := by decide +kernel
theorem dL_refusesAny_357 : decode cL_refusesAny 357 = .ok (.iload_n 2, 1) := by decide +kernel
theorem dL_refusesAny_358 : decode cL_refusesAny 358 = .ok (.iload 4, 2) := by decide +kernel
theorem dL_refusesAny_360 : decode cL_refusesAny 360 = .ok (.invokevirtual 44, 3) := by decide +kernel
theorem dL_refusesAny_363 : decode cL_refusesAny 363 = .ok (.iconst (-1), 1) := by decide +kernel
theorem dL_refusesAny_364 : decode cL_refusesAny 364 = .ok (.if_icmp .ne 110, 3) := by decide +kernel
theorem dL_refusesAny_367 : decode cL_refusesAny 367 = .ok (.iload 6, 2) := by decide +kernel
theorem dL_refusesAny_369 : decode cL_refusesAny 369 = .ok (.ifCond .eq 34, 3) := by decide +kernel
theorem dL_refusesAny_372 : decode cL_refusesAny 372 = .ok (.aload_n 0, 1) := by decide +kernel
theorem dL_refusesAny_373 : decode cL_refusesAny 373 = .ok (.iload 5, 2) := by decide +kernel
theorem dL_refusesAny_375 : decode cL_refusesAny 375 = .ok (.iconst 0, 1) := by decide +kernel
theorem dL_refusesAny_376 : decode cL_refusesAny 376 = .ok (.bipush (-6), 2) := by decide +kernel
theorem dL_refusesAny_378 : decode cL_refusesAny 378 = .ok (.iload 4, 2) := by decide +kernel
theorem dL_refusesAny_380 : decode cL_refusesAny 380 = .ok (.invokevirtual 44, 3) := by decide +kernel
theorem dL_refusesAny_383 : decode cL_refusesAny 383 = .ok (.bipush (-2), 2) := by decide +kernel
theorem dL_refusesAny_385 : decode cL_refusesAny 385 = .ok (.if_icmp .ne 89, 3) := by decide +kernel
theorem dL_refusesAny_388 : decode cL_refusesAny 388 = .ok (.aload_n 0, 1) := by decide +kernel
theorem dL_refusesAny_389 : decode cL_refusesAny 389 = .ok (.iload 5, 2) := by decide +kernel
theorem dL_refusesAny_391 : decode cL_refusesAny 391 = .ok (.iconst 0, 1) := by decide +kernel
theorem dL_refusesAny_392 : decode cL_refusesAny 392 = .ok (.iload 5, 2) := by decide +kernel
theorem dL_refusesAny_394 : decode cL_refusesAny 394 = .ok (.iconst 5, 1) := by decide +kernel
theorem dL_refusesAny_395 : decode cL_refusesAny 395 = .ok (.invokevirtual 44, 3) := by decide +kernel
theorem dL_refusesAny_398 : decode cL_refusesAny 398 = .ok (.bipush (-2), 2) := by decide +kernel
theorem dL_refusesAny_400 : decode cL_refusesAny 400 = .ok (.if_icmp .ne 74, 3) := by decide +kernel
theorem dL_refusesAny_403 : decode cL_refusesAny 403 = .ok (.aload_n 0, 1) := by decide +kernel
theorem dL_refusesAny_404 : decode cL_refusesAny 404 = .ok (.iload_n 2, 1) := by decide +kernel
theorem dL_refusesAny_405 : decode cL_refusesAny 405 = .ok (.iconst 0, 1) := by decide +kernel
theorem dL_refusesAny_406 : decode cL_refusesAny 406 = .ok (.invokevirtual 48, 3) := by decide +kernel
theorem dL_refusesAny_409 : decode cL_refusesAny 409 = .ok (.iconst (-1), 1) := by decide +kernel
theorem dL_refusesAny_410 : decode cL_refusesAny 410 = .ok (.if_icmp .ne 64, 3) := by decide +kernel
theorem dL_refusesAny_413 : decode cL_refusesAny 413 = .ok (.aload_n 0, 1) := by decide +kernel
theorem dL_refusesAny_414 : decode cL_refusesAny 414 = .ok (.iload 5, 2) := by decide +kernel
theorem dL_refusesAny_416 : decode cL_refusesAny 416 = .ok (.iload_n 1, 1) := by decide +kernel
theorem dL_refusesAny_417 : decode cL_refusesAny 417 = .ok (.iconst 2, 1) := by decide +kernel
theorem dL_refusesAny_418 : decode cL_refusesAny 418 = .ok (.irem, 1) := by decide +kernel
theorem dL_refusesAny_419 : decode cL_refusesAny 419 = .ok (.ifCond .ne 7, 3) := by decide +kernel
theorem dL_refusesAny_422 : decode cL_refusesAny 422 = .ok (.iconst 0, 1) := by decide +kernel
theorem dL_refusesAny_423 : decode cL_refusesAny 423 = .ok (.goto 6, 3) := by decide +kernel
theorem dL_refusesAny_426 : decode cL_refusesAny 426 = .ok (.sipush 10000, 3) := by decide +kernel
theorem dL_refusesAny_429 : decode cL_refusesAny 429 = .ok (.invokevirtual 48, 3) := by decide +kernel
theorem dL_refusesAny_432 : decode cL_refusesAny 432 = .ok (.bipush (-2), 2) := by decide +kernel
theorem dL_refusesAny_434 : decode cL_refusesAny 434 = .ok (.if_icmp .ne 40, 3) := by decide +kernel
theorem dL_refusesAny_437 : decode cL_refusesAny 437 = .ok (.aload_n 0, 1) := by decide +kernel
theorem dL_refusesAny_438 : decode cL_refusesAny 438 = .ok (.iload 5, 2) := by decide +kernel
theorem dL_refusesAny_440 : decode cL_refusesAny 440 = .ok (.iconst 1, 1) := by decide +kernel
theorem dL_refusesAny_441 : decode cL_refusesAny 441 = .ok (.invokevirtual 20, 3) := by decide +kernel
theorem dL_refusesAny_444 : decode cL_refusesAny 444 = .ok (.sipush 9998, 3) := by decide +kernel
theorem dL_refusesAny_447 : decode cL_refusesAny 447 = .ok (.if_icmp .gt 23, 3) := by decide +kernel
theorem dL_refusesAny_450 : decode cL_refusesAny 450 = .ok (.aload_n 0, 1) := by decide +kernel
theorem dL_refusesAny_451 : decode cL_refusesAny 451 = .ok (.iload 5, 2) := by decide +kernel
theorem dL_refusesAny_453 : decode cL_refusesAny 453 = .ok (.aload_n 0, 1) := by decide +kernel
theorem dL_refusesAny_454 : decode cL_refusesAny 454 = .ok (.iload 5, 2) := by decide +kernel
theorem dL_refusesAny_456 : decode cL_refusesAny 456 = .ok (.iconst 1, 1) := by decide +kernel
theorem dL_refusesAny_457 : decode cL_refusesAny 457 = .ok (.invokevirtual 20, 3) := by decide +kernel
theorem dL_refusesAny_460 : decode cL_refusesAny 460 = .ok (.iconst 1, 1) := by decide +kernel
theorem dL_refusesAny_461 : decode cL_refusesAny 461 = .ok (.iadd, 1) := by decide +kernel
theorem dL_refusesAny_462 : decode cL_refusesAny 462 = .ok (.invokevirtual 48, 3) := by decide +kernel
theorem dL_refusesAny_465 : decode cL_refusesAny 465 = .ok (.bipush (-5), 2) := by decide +kernel
theorem dL_refusesAny_467 : decode cL_refusesAny 467 = .ok (.if_icmp .ne 7, 3) := by decide +kernel
theorem dL_refusesAny_470 : decode cL_refusesAny 470 = .ok (.iconst 1, 1) := by decide +kernel
theorem dL_refusesAny_471 : decode cL_refusesAny 471 = .ok (.goto 4, 3) := by decide +kernel
theorem dL_refusesAny_474 : decode cL_refusesAny 474 = .ok (.iconst 0, 1) := by decide +kernel
theorem dL_refusesAny_475 : decode cL_refusesAny 475 = .ok (.istore 7, 2) := by decide +kernel
theorem dL_refusesAny_477 : decode cL_refusesAny 477 = .ok (.iload 7, 2) := by decide +kernel
theorem dL_refusesAny_479 : decode cL_refusesAny 479 = .ok (.ifCond .eq 323, 3) := by decide +kernel
theorem dL_refusesAny_482 : decode cL_refusesAny 482 = .ok (.aload_n 0, 1) := by decide +kernel
theorem dL_refusesAny_483 : decode cL_refusesAny 483 = .ok (.iload_n 3, 1) := by decide +kernel
theorem dL_refusesAny_484 : decode cL_refusesAny 484 = .ok (.bipush 99, 2) := by decide +kernel
theorem dL_refusesAny_486 : decode cL_refusesAny 486 = .ok (.invokevirtual 24, 3) := by decide +kernel
theorem dL_refusesAny_489 : decode cL_refusesAny 489 = .ok (.iconst (-1), 1) := by decide +kernel
theorem dL_refusesAny_490 : decode cL_refusesAny 490 = .ok (.if_icmp .ne 312, 3) := by decide +kernel
theorem dL_refusesAny_493 : decode cL_refusesAny 493 = .ok (.iload 6, 2) := by decide +kernel
theorem dL_refusesAny_495 : decode cL_refusesAny 495 = .ok (.ifCond .eq 24, 3) := by decide +kernel
theorem dL_refusesAny_498 : decode cL_refusesAny 498 = .ok (.aload_n 0, 1) := by decide +kernel
theorem dL_refusesAny_499 : decode cL_refusesAny 499 = .ok (.iconst 0, 1) := by decide +kernel
theorem dL_refusesAny_500 : decode cL_refusesAny 500 = .ok (.iload_n 1, 1) := by decide +kernel
theorem dL_refusesAny_501 : decode cL_refusesAny 501 = .ok (.iconst 2, 1) := by decide +kernel
theorem dL_refusesAny_502 : decode cL_refusesAny 502 = .ok (.irem, 1) := by decide +kernel
theorem dL_refusesAny_503 : decode cL_refusesAny 503 = .ok (.ifCond .ne 7, 3) := by decide +kernel
theorem dL_refusesAny_506 : decode cL_refusesAny 506 = .ok (.iconst (-1), 1) := by decide +kernel
theorem dL_refusesAny_507 : decode cL_refusesAny 507 = .ok (.goto 4, 3) := by decide +kernel
theorem dL_refusesAny_510 : decode cL_refusesAny 510 = .ok (.iconst 5, 1) := by decide +kernel
theorem dL_refusesAny_511 : decode cL_refusesAny 511 = .ok (.invokevirtual 24, 3) := by decide +kernel
theorem dL_refusesAny_514 : decode cL_refusesAny 514 = .ok (.bipush (-2), 2) := by decide +kernel
theorem dL_refusesAny_516 : decode cL_refusesAny 516 = .ok (.if_icmp .ne 286, 3) := by decide +kernel
theorem dL_refusesAny_519 : decode cL_refusesAny 519 = .ok (.aload_n 0, 1) := by decide +kernel
theorem dL_refusesAny_520 : decode cL_refusesAny 520 = .ok (.iload_n 2, 1) := by decide +kernel
theorem dL_refusesAny_521 : decode cL_refusesAny 521 = .ok (.bipush 99, 2) := by decide +kernel
theorem dL_refusesAny_523 : decode cL_refusesAny 523 = .ok (.invokevirtual 20, 3) := by decide +kernel
theorem dL_refusesAny_526 : decode cL_refusesAny 526 = .ok (.iconst (-1), 1) := by decide +kernel
theorem dL_refusesAny_527 : decode cL_refusesAny 527 = .ok (.if_icmp .ne 275, 3) := by decide +kernel
theorem dL_refusesAny_530 : decode cL_refusesAny 530 = .ok (.aload_n 0, 1) := by decide +kernel
theorem dL_refusesAny_531 : decode cL_refusesAny 531 = .ok (.iload 5, 2) := by decide +kernel
theorem dL_refusesAny_533 : decode cL_refusesAny 533 = .ok (.iload_n 1, 1) := by decide +kernel
theorem dL_refusesAny_534 : decode cL_refusesAny 534 = .ok (.iconst 2, 1) := by decide +kernel
theorem dL_refusesAny_535 : decode cL_refusesAny 535 = .ok (.irem, 1) := by decide +kernel
theorem dL_refusesAny_536 : decode cL_refusesAny 536 = .ok (.ifCond .ne 7, 3) := by decide +kernel
theorem dL_refusesAny_539 : decode cL_refusesAny 539 = .ok (.iconst (-1), 1) := by decide +kernel
theorem dL_refusesAny_540 : decode cL_refusesAny 540 = .ok (.goto 5, 3) := by decide +kernel
theorem dL_refusesAny_543 : decode cL_refusesAny 543 = .ok (.bipush 8, 2) := by decide +kernel
theorem dL_refusesAny_545 : decode cL_refusesAny 545 = .ok (.invokevirtual 20, 3) := by decide +kernel
theorem dL_refusesAny_548 : decode cL_refusesAny 548 = .ok (.bipush (-2), 2) := by decide +kernel
theorem dL_refusesAny_550 : decode cL_refusesAny 550 = .ok (.if_icmp .ne 252, 3) := by decide +kernel
theorem dL_refusesAny_553 : decode cL_refusesAny 553 = .ok (.aload_n 0, 1) := by decide +kernel
theorem dL_refusesAny_554 : decode cL_refusesAny 554 = .ok (.iload_n 2, 1) := by decide +kernel
theorem dL_refusesAny_555 : decode cL_refusesAny 555 = .ok (.iconst 0, 1) := by decide +kernel
theorem dL_refusesAny_556 : decode cL_refusesAny 556 = .ok (.invokevirtual 27, 3) := by decide +kernel
theorem dL_refusesAny_559 : decode cL_refusesAny 559 = .ok (.iconst (-1), 1) := by decide +kernel
theorem dL_refusesAny_560 : decode cL_refusesAny 560 = .ok (.if_icmp .ne 242, 3) := by decide +kernel
theorem dL_refusesAny_563 : decode cL_refusesAny 563 = .ok (.aload_n 0, 1) := by decide +kernel
theorem dL_refusesAny_564 : decode cL_refusesAny 564 = .ok (.iload 5, 2) := by decide +kernel
theorem dL_refusesAny_566 : decode cL_refusesAny 566 = .ok (.iload_n 3, 1) := by decide +kernel
theorem dL_refusesAny_567 : decode cL_refusesAny 567 = .ok (.invokevirtual 27, 3) := by decide +kernel
theorem dL_refusesAny_570 : decode cL_refusesAny 570 = .ok (.iconst (-1), 1) := by decide +kernel
theorem dL_refusesAny_571 : decode cL_refusesAny 571 = .ok (.if_icmp .ne 231, 3) := by decide +kernel
theorem dL_refusesAny_574 : decode cL_refusesAny 574 = .ok (.aload_n 0, 1) := by decide +kernel
theorem dL_refusesAny_575 : decode cL_refusesAny 575 = .ok (.iload_n 2, 1) := by decide +kernel
theorem dL_refusesAny_576 : decode cL_refusesAny 576 = .ok (.iconst 0, 1) := by decide +kernel
theorem dL_refusesAny_577 : decode cL_refusesAny 577 = .ok (.bipush (-6), 2) := by decide +kernel
theorem dL_refusesAny_579 : decode cL_refusesAny 579 = .ok (.iload 4, 2) := by decide +kernel
theorem dL_refusesAny_581 : decode cL_refusesAny 581 = .ok (.invokevirtual 51, 3) := by decide +kernel
theorem dL_refusesAny_584 : decode cL_refusesAny 584 = .ok (.iconst (-1), 1) := by decide +kernel
theorem dL_refusesAny_585 : decode cL_refusesAny 585 = .ok (.if_icmp .ne 217, 3) := by decide +kernel
theorem dL_refusesAny_588 : decode cL_refusesAny 588 = .ok (.aload_n 0, 1) := by decide +kernel
theorem dL_refusesAny_589 : decode cL_refusesAny 589 = .ok (.iload 5, 2) := by decide +kernel
theorem dL_refusesAny_591 : decode cL_refusesAny 591 = .ok (.iload_n 3, 1) := by decide +kernel
theorem dL_refusesAny_592 : decode cL_refusesAny 592 = .ok (.iload 5, 2) := by decide +kernel
theorem dL_refusesAny_594 : decode cL_refusesAny 594 = .ok (.iload 4, 2) := by decide +kernel
theorem dL_refusesAny_596 : decode cL_refusesAny 596 = .ok (.invokevirtual 51, 3) := by decide +kernel
theorem dL_refusesAny_599 : decode cL_refusesAny 599 = .ok (.iconst (-1), 1) := by decide +kernel
theorem dL_refusesAny_600 : decode cL_refusesAny 600 = .ok (.if_icmp .ne 202, 3) := by decide +kernel
theorem dL_refusesAny_603 : decode cL_refusesAny 603 = .ok (.aload_n 0, 1) := by decide +kernel
theorem dL_refusesAny_604 : decode cL_refusesAny 604 = .ok (.iload 5, 2) := by decide +kernel
theorem dL_refusesAny_606 : decode cL_refusesAny 606 = .ok (.iconst 0, 1) := by decide +kernel
theorem dL_refusesAny_607 : decode cL_refusesAny 607 = .ok (.iload_n 2, 1) := by decide +kernel
theorem dL_refusesAny_608 : decode cL_refusesAny 608 = .ok (.iload 4, 2) := by decide +kernel
theorem dL_refusesAny_610 : decode cL_refusesAny 610 = .ok (.invokevirtual 54, 3) := by decide +kernel
theorem dL_refusesAny_613 : decode cL_refusesAny 613 = .ok (.iconst (-1), 1) := by decide +kernel
theorem dL_refusesAny_614 : decode cL_refusesAny 614 = .ok (.if_icmp .ne 188, 3) := by decide +kernel
theorem dL_refusesAny_617 : decode cL_refusesAny 617 = .ok (.iload 6, 2) := by decide +kernel
theorem dL_refusesAny_619 : decode cL_refusesAny 619 = .ok (.ifCond .eq 48, 3) := by decide +kernel
theorem dL_refusesAny_622 : decode cL_refusesAny 622 = .ok (.aload_n 0, 1) := by decide +kernel
theorem dL_refusesAny_623 : decode cL_refusesAny 623 = .ok (.iload 5, 2) := by decide +kernel
theorem dL_refusesAny_625 : decode cL_refusesAny 625 = .ok (.iconst 0, 1) := by decide +kernel
theorem dL_refusesAny_626 : decode cL_refusesAny 626 = .ok (.bipush (-6), 2) := by decide +kernel
theorem dL_refusesAny_628 : decode cL_refusesAny 628 = .ok (.iload 4, 2) := by decide +kernel
theorem dL_refusesAny_630 : decode cL_refusesAny 630 = .ok (.invokevirtual 51, 3) := by decide +kernel
theorem dL_refusesAny_633 : decode cL_refusesAny 633 = .ok (.bipush (-2), 2) := by decide +kernel
theorem dL_refusesAny_635 : decode cL_refusesAny 635 = .ok (.if_icmp .ne 167, 3) := by decide +kernel
theorem dL_refusesAny_638 : decode cL_refusesAny 638 = .ok (.aload_n 0, 1) := by decide +kernel
theorem dL_refusesAny_639 : decode cL_refusesAny 639 = .ok (.iload 5, 2) := by decide +kernel
theorem dL_refusesAny_641 : decode cL_refusesAny 641 = .ok (.iconst 0, 1) := by decide +kernel
theorem dL_refusesAny_642 : decode cL_refusesAny 642 = .ok (.iload 5, 2) := by decide +kernel
theorem dL_refusesAny_644 : decode cL_refusesAny 644 = .ok (.iconst 5, 1) := by decide +kernel
theorem dL_refusesAny_645 : decode cL_refusesAny 645 = .ok (.invokevirtual 54, 3) := by decide +kernel
theorem dL_refusesAny_648 : decode cL_refusesAny 648 = .ok (.bipush (-2), 2) := by decide +kernel
theorem dL_refusesAny_650 : decode cL_refusesAny 650 = .ok (.if_icmp .ne 152, 3) := by decide +kernel
theorem dL_refusesAny_653 : decode cL_refusesAny 653 = .ok (.aload_n 0, 1) := by decide +kernel
theorem dL_refusesAny_654 : decode cL_refusesAny 654 = .ok (.iload 5, 2) := by decide +kernel
theorem dL_refusesAny_656 : decode cL_refusesAny 656 = .ok (.iconst 0, 1) := by decide +kernel
theorem dL_refusesAny_657 : decode cL_refusesAny 657 = .ok (.iload 4, 2) := by decide +kernel
theorem dL_refusesAny_659 : decode cL_refusesAny 659 = .ok (.invokevirtual 57, 3) := by decide +kernel
theorem dL_refusesAny_662 : decode cL_refusesAny 662 = .ok (.bipush (-2), 2) := by decide +kernel
theorem dL_refusesAny_664 : decode cL_refusesAny 664 = .ok (.if_icmp .ne 138, 3) := by decide +kernel
theorem dL_refusesAny_667 : decode cL_refusesAny 667 = .ok (.aload_n 0, 1) := by decide +kernel
theorem dL_refusesAny_668 : decode cL_refusesAny 668 = .ok (.iload_n 1, 1) := by decide +kernel
theorem dL_refusesAny_669 : decode cL_refusesAny 669 = .ok (.iconst 2, 1) := by decide +kernel
theorem dL_refusesAny_670 : decode cL_refusesAny 670 = .ok (.irem, 1) := by decide +kernel
theorem dL_refusesAny_671 : decode cL_refusesAny 671 = .ok (.ifCond .ne 7, 3) := by decide +kernel
theorem dL_refusesAny_674 : decode cL_refusesAny 674 = .ok (.iconst (-1), 1) := by decide +kernel
theorem dL_refusesAny_675 : decode cL_refusesAny 675 = .ok (.goto 5, 3) := by decide +kernel
theorem dL_refusesAny_678 : decode cL_refusesAny 678 = .ok (.bipush 20, 2) := by decide +kernel
theorem dL_refusesAny_680 : decode cL_refusesAny 680 = .ok (.invokevirtual 14, 3) := by decide +kernel
theorem dL_refusesAny_683 : decode cL_refusesAny 683 = .ok (.bipush (-2), 2) := by decide +kernel
theorem dL_refusesAny_685 : decode cL_refusesAny 685 = .ok (.if_icmp .ne 117, 3) := by decide +kernel
theorem dL_refusesAny_688 : decode cL_refusesAny 688 = .ok (.aload_n 0, 1) := by decide +kernel
theorem dL_refusesAny_689 : decode cL_refusesAny 689 = .ok (.iload_n 2, 1) := by decide +kernel
theorem dL_refusesAny_690 : decode cL_refusesAny 690 = .ok (.iload 4, 2) := by decide +kernel
theorem dL_refusesAny_692 : decode cL_refusesAny 692 = .ok (.invokevirtual 61, 3) := by decide +kernel
theorem dL_refusesAny_695 : decode cL_refusesAny 695 = .ok (.iconst (-1), 1) := by decide +kernel
theorem dL_refusesAny_696 : decode cL_refusesAny 696 = .ok (.if_icmp .ne 106, 3) := by decide +kernel
theorem dL_refusesAny_699 : decode cL_refusesAny 699 = .ok (.aload_n 0, 1) := by decide +kernel
theorem dL_refusesAny_700 : decode cL_refusesAny 700 = .ok (.iload 5, 2) := by decide +kernel
theorem dL_refusesAny_702 : decode cL_refusesAny 702 = .ok (.iload 4, 2) := by decide +kernel
theorem dL_refusesAny_704 : decode cL_refusesAny 704 = .ok (.invokevirtual 61, 3) := by decide +kernel
theorem dL_refusesAny_707 : decode cL_refusesAny 707 = .ok (.bipush (-2), 2) := by decide +kernel
theorem dL_refusesAny_709 : decode cL_refusesAny 709 = .ok (.if_icmp .ne 93, 3) := by decide +kernel
theorem dL_refusesAny_712 : decode cL_refusesAny 712 = .ok (.aload_n 0, 1) := by decide +kernel
theorem dL_refusesAny_713 : decode cL_refusesAny 713 = .ok (.iload_n 2, 1) := by decide +kernel
theorem dL_refusesAny_714 : decode cL_refusesAny 714 = .ok (.iconst 0, 1) := by decide +kernel
theorem dL_refusesAny_715 : decode cL_refusesAny 715 = .ok (.iload 4, 2) := by decide +kernel
theorem dL_refusesAny_717 : decode cL_refusesAny 717 = .ok (.invokevirtual 57, 3) := by decide +kernel
theorem dL_refusesAny_720 : decode cL_refusesAny 720 = .ok (.iconst (-1), 1) := by decide +kernel
theorem dL_refusesAny_721 : decode cL_refusesAny 721 = .ok (.if_icmp .ne 81, 3) := by decide +kernel
theorem dL_refusesAny_724 : decode cL_refusesAny 724 = .ok (.aload_n 0, 1) := by decide +kernel
theorem dL_refusesAny_725 : decode cL_refusesAny 725 = .ok (.iload 5, 2) := by decide +kernel
theorem dL_refusesAny_727 : decode cL_refusesAny 727 = .ok (.iload_n 3, 1) := by decide +kernel
theorem dL_refusesAny_728 : decode cL_refusesAny 728 = .ok (.iload 4, 2) := by decide +kernel
theorem dL_refusesAny_730 : decode cL_refusesAny 730 = .ok (.invokevirtual 57, 3) := by decide +kernel
theorem dL_refusesAny_733 : decode cL_refusesAny 733 = .ok (.iconst (-1), 1) := by decide +kernel
theorem dL_refusesAny_734 : decode cL_refusesAny 734 = .ok (.if_icmp .ne 68, 3) := by decide +kernel
theorem dL_refusesAny_737 : decode cL_refusesAny 737 = .ok (.aload_n 0, 1) := by decide +kernel
theorem dL_refusesAny_738 : decode cL_refusesAny 738 = .ok (.iload_n 2, 1) := by decide +kernel
theorem dL_refusesAny_739 : decode cL_refusesAny 739 = .ok (.iconst 0, 1) := by decide +kernel
theorem dL_refusesAny_740 : decode cL_refusesAny 740 = .ok (.invokevirtual 64, 3) := by decide +kernel
theorem dL_refusesAny_743 : decode cL_refusesAny 743 = .ok (.iconst (-1), 1) := by decide +kernel
theorem dL_refusesAny_744 : decode cL_refusesAny 744 = .ok (.if_icmp .ne 58, 3) := by decide +kernel
theorem dL_refusesAny_747 : decode cL_refusesAny 747 = .ok (.aload_n 0, 1) := by decide +kernel
theorem dL_refusesAny_748 : decode cL_refusesAny 748 = .ok (.iload 5, 2) := by decide +kernel
theorem dL_refusesAny_750 : decode cL_refusesAny 750 = .ok (.iload_n 3, 1) := by decide +kernel
theorem dL_refusesAny_751 : decode cL_refusesAny 751 = .ok (.invokevirtual 64, 3) := by decide +kernel
theorem dL_refusesAny_754 : decode cL_refusesAny 754 = .ok (.iconst (-1), 1) := by decide +kernel
theorem dL_refusesAny_755 : decode cL_refusesAny 755 = .ok (.if_icmp .ne 47, 3) := by decide +kernel
theorem dL_refusesAny_758 : decode cL_refusesAny 758 = .ok (.aload_n 0, 1) := by decide +kernel
theorem dL_refusesAny_759 : decode cL_refusesAny 759 = .ok (.iload_n 1, 1) := by decide +kernel
theorem dL_refusesAny_760 : decode cL_refusesAny 760 = .ok (.iconst 2, 1) := by decide +kernel
theorem dL_refusesAny_761 : decode cL_refusesAny 761 = .ok (.irem, 1) := by decide +kernel
theorem dL_refusesAny_762 : decode cL_refusesAny 762 = .ok (.ifCond .ne 7, 3) := by decide +kernel
theorem dL_refusesAny_765 : decode cL_refusesAny 765 = .ok (.iconst (-1), 1) := by decide +kernel
theorem dL_refusesAny_766 : decode cL_refusesAny 766 = .ok (.goto 4, 3) := by decide +kernel
theorem dL_refusesAny_769 : decode cL_refusesAny 769 = .ok (.iconst 2, 1) := by decide +kernel
theorem dL_refusesAny_770 : decode cL_refusesAny 770 = .ok (.invokevirtual 67, 3) := by decide +kernel
theorem dL_refusesAny_773 : decode cL_refusesAny 773 = .ok (.bipush (-2), 2) := by decide +kernel
theorem dL_refusesAny_775 : decode cL_refusesAny 775 = .ok (.if_icmp .ne 27, 3) := by decide +kernel
theorem dL_refusesAny_778 : decode cL_refusesAny 778 = .ok (.aload_n 0, 1) := by decide +kernel
theorem dL_refusesAny_779 : decode cL_refusesAny 779 = .ok (.iload_n 1, 1) := by decide +kernel
theorem dL_refusesAny_780 : decode cL_refusesAny 780 = .ok (.iconst 2, 1) := by decide +kernel
theorem dL_refusesAny_781 : decode cL_refusesAny 781 = .ok (.irem, 1) := by decide +kernel
theorem dL_refusesAny_782 : decode cL_refusesAny 782 = .ok (.ifCond .ne 7, 3) := by decide +kernel
theorem dL_refusesAny_785 : decode cL_refusesAny 785 = .ok (.iconst (-1), 1) := by decide +kernel
theorem dL_refusesAny_786 : decode cL_refusesAny 786 = .ok (.goto 4, 3) := by decide +kernel
theorem dL_refusesAny_789 : decode cL_refusesAny 789 = .ok (.iconst 2, 1) := by decide +kernel
theorem dL_refusesAny_790 : decode cL_refusesAny 790 = .ok (.invokevirtual 70, 3) := by decide +kernel
theorem dL_refusesAny_793 : decode cL_refusesAny 793 = .ok (.bipush (-2), 2) := by decide +kernel
theorem dL_refusesAny_795 : decode cL_refusesAny 795 = .ok (.if_icmp .ne 7, 3) := by decide +kernel
theorem dL_refusesAny_798 : decode cL_refusesAny 798 = .ok (.iconst 1, 1) := by decide +kernel
theorem dL_refusesAny_799 : decode cL_refusesAny 799 = .ok (.goto 4, 3) := by decide +kernel
theorem dL_refusesAny_802 : decode cL_refusesAny 802 = .ok (.iconst 0, 1) := by decide +kernel
theorem dL_refusesAny_803 : decode cL_refusesAny 803 = .ok (.istore 7, 2) := by decide +kernel
theorem dL_refusesAny_805 : decode cL_refusesAny 805 = .ok (.iload 7, 2) := by decide +kernel
theorem dL_refusesAny_807 : decode cL_refusesAny 807 = .ok (.ifCond .eq 30, 3) := by decide +kernel
theorem dL_refusesAny_810 : decode cL_refusesAny 810 = .ok (.aload_n 0, 1) := by decide +kernel
theorem dL_refusesAny_811 : decode cL_refusesAny 811 = .ok (.invokevirtual 73, 3) := by decide +kernel
theorem dL_refusesAny_814 : decode cL_refusesAny 814 = .ok (.ifCond .ne 23, 3) := by decide +kernel
theorem dL_refusesAny_817 : decode cL_refusesAny 817 = .ok (.aload_n 0, 1) := by decide +kernel
theorem dL_refusesAny_818 : decode cL_refusesAny 818 = .ok (.invokevirtual 77, 3) := by decide +kernel
theorem dL_refusesAny_821 : decode cL_refusesAny 821 = .ok (.bipush (-3), 2) := by decide +kernel
theorem dL_refusesAny_823 : decode cL_refusesAny 823 = .ok (.if_icmp .ne 14, 3) := by decide +kernel
theorem dL_refusesAny_826 : decode cL_refusesAny 826 = .ok (.aload_n 0, 1) := by decide +kernel
theorem dL_refusesAny_827 : decode cL_refusesAny 827 = .ok (.invokevirtual 80, 3) := by decide +kernel
theorem dL_refusesAny_830 : decode cL_refusesAny 830 = .ok (.ifCond .ne 7, 3) := by decide +kernel
theorem dL_refusesAny_833 : decode cL_refusesAny 833 = .ok (.iconst 1, 1) := by decide +kernel
theorem dL_refusesAny_834 : decode cL_refusesAny 834 = .ok (.goto 4, 3) := by decide +kernel
theorem dL_refusesAny_837 : decode cL_refusesAny 837 = .ok (.iconst 0, 1) := by decide +kernel
theorem dL_refusesAny_838 : decode cL_refusesAny 838 = .ok (.ireturn, 1) := by decide +kernel
end
section
set_option maxRecDepth 20000 in
theorem ggL_act_X4_count : GoodIn wsL_act wsX4_count := goodIn_r _ [5, 6, 7, 8, 9, 10, 11, 12, 13, 14, 15, 16, 17, 18, 19, 20, 21, 22, 4, 23, 24, 25, 26, 27, 28, 29, 30, 31, 32, 33, 34, 35, 36, 37, 38, 39, 40, 41, 42, 43, 44, 45, 46, 47, 48, 49, 50, 51, 52, 53, 54, 55, 56, 212, 213, 214, 215, 216, 217, 218, 219, 220, 221, 222, 223, 224, 225, 226, 227, 228, 229, 230, 231, 232, 233, 234, 235, 236, 237] (by decide +kernel) (by decide +kernel)
set_option maxRecDepth 20000 in
theorem gL_act_X4_count : GoodIn wsL_act (wsV RL 14 RX4 yX4_count wsX4_count) := goodIn_app (goodIn_of _ (by decide +kernel)) ggL_act_X4_count
set_option maxRecDepth 20000 in
theorem ggL_act_X4_add : GoodIn wsL_act wsX4_add := goodIn_r _ [60, 7, 9, 19, 21, 22, 4, 23, 61, 62, 63, 64, 65, 66, 67, 68, 69, 70, 44, 71, 72, 73, 74, 30, 75, 41, 32, 76, 77, 78, 50, 79, 80, 81, 82, 83, 84, 85, 86, 87, 88, 89, 90, 91, 92, 93, 94, 95, 96, 97, 98, 212, 213, 214, 215, 216, 217, 218, 219, 220, 221, 222, 223, 224, 225, 226, 227, 228, 229, 230, 231, 232, 235, 236, 237] (by decide +kernel) (by decide +kernel)
set_option maxRecDepth 20000 in
theorem gL_act_X4_add : GoodIn wsL_act (wsV RL 38 RX4 yX4_add wsX4_add) := goodIn_app (goodIn_of _ (by decide +kernel)) ggL_act_X4_add
set_option maxRecDepth 20000 in
theorem ggL_act_X4_excuse : GoodIn wsL_act wsX4_excuse := goodIn_r _ [102, 7, 103, 104, 105, 106, 107, 108, 30, 109, 32, 110, 47, 48, 49, 50, 111, 112, 113, 114, 115, 116, 117, 118, 212, 213, 214, 215, 216, 217, 218, 219, 220, 221, 222, 223, 224, 225, 226, 227, 228, 229, 230, 231, 232] (by decide +kernel) (by decide +kernel)
set_option maxRecDepth 20000 in
theorem gL_act_X4_excuse : GoodIn wsL_act (wsV RL 24 RX4 yX4_excuse wsX4_excuse) := goodIn_app (goodIn_of _ (by decide +kernel)) ggL_act_X4_excuse
set_option maxRecDepth 20000 in
theorem ggL_act_X4_novelty : GoodIn wsL_act wsX4_novelty := goodIn_r _ [122, 7, 123, 124, 4, 125, 21, 22, 23, 106, 107, 108, 30, 109, 32, 126, 38, 39, 40, 41, 42, 43, 44, 45, 46, 47, 48, 49, 50, 51, 52, 53, 54, 55, 56, 212, 213, 214, 215, 216, 217, 218, 219, 220, 221, 222, 223, 224, 225, 226, 227, 228, 229, 230, 231, 232] (by decide +kernel) (by decide +kernel)
set_option maxRecDepth 20000 in
theorem gL_act_X4_novelty : GoodIn wsL_act (wsV RL 27 RX4 yX4_novelty wsX4_novelty) := goodIn_app (goodIn_of _ (by decide +kernel)) ggL_act_X4_novelty
set_option maxRecDepth 20000 in
theorem ggL_act_X4_why : GoodIn wsL_act wsX4_why := goodIn_r _ [130, 7, 131, 132, 133, 4, 134, 123, 124, 125, 21, 22, 23, 106, 107, 108, 30, 109, 32, 135, 136, 137, 138, 41, 84, 76, 79, 115, 116, 117, 118, 50, 139, 140, 141, 142, 77, 85, 37, 38, 39, 40, 42, 43, 44, 45, 46, 47, 48, 49, 51, 52, 53, 54, 55, 56, 143, 144, 145, 146, 212, 213, 214, 215, 216, 217, 218, 219, 220, 221, 222, 223, 224, 225, 226, 227, 228, 229, 230, 231, 232] (by decide +kernel) (by decide +kernel)
set_option maxRecDepth 20000 in
theorem gL_act_X4_why : GoodIn wsL_act (wsV RL 51 RX4 yX4_why wsX4_why) := goodIn_app (goodIn_of _ (by decide +kernel)) ggL_act_X4_why
set_option maxRecDepth 20000 in
theorem ggL_act_X4_weight : GoodIn wsL_act wsX4_weight := goodIn_r _ [150, 7, 131, 132, 133, 4, 134, 123, 124, 125, 21, 22, 23, 106, 107, 108, 30, 109, 32, 151, 140, 141, 142, 77, 41, 85, 37, 38, 39, 40, 42, 43, 44, 45, 46, 47, 48, 49, 50, 51, 52, 53, 54, 55, 56, 143, 144, 145, 146, 79, 212, 213, 214, 215, 216, 217, 218, 219, 220, 221, 222, 223, 224, 225, 226, 227, 228, 229, 230, 231, 232] (by decide +kernel) (by decide +kernel)
set_option maxRecDepth 20000 in
theorem gL_act_X4_weight : GoodIn wsL_act (wsV RL 54 RX4 yX4_weight wsX4_weight) := goodIn_app (goodIn_of _ (by decide +kernel)) ggL_act_X4_weight
set_option maxRecDepth 20000 in
theorem ggL_act_X4_offer : GoodIn wsL_act wsX4_offer := goodIn_r _ [155, 19, 7, 131, 132, 133, 4, 134, 123, 124, 125, 21, 22, 23, 106, 107, 108, 30, 109, 32, 61, 62, 63, 64, 65, 66, 67, 68, 69, 70, 44, 71, 72, 73, 74, 75, 41, 76, 77, 78, 50, 79, 80, 81, 82, 83, 84, 85, 86, 87, 88, 89, 90, 91, 92, 93, 94, 156, 157, 158, 159, 160, 136, 137, 138, 115, 116, 117, 118, 139, 140, 141, 142, 37, 38, 39, 40, 42, 43, 45, 46, 47, 48, 49, 51, 52, 53, 54, 55, 56, 143, 144, 145, 146, 161, 162, 163, 164, 165, 166, 167, 168, 169, 170, 171, 172, 173, 174, 175, 176, 177, 212, 213, 214, 215, 216, 217, 218, 219, 220, 221, 222, 223, 224, 225, 226, 227, 228, 229, 230, 231, 232, 235, 236, 237] (by decide +kernel) (by decide +kernel)
set_option maxRecDepth 20000 in
theorem gL_act_X4_offer : GoodIn wsL_act (wsV RL 44 RX4 yX4_offer wsX4_offer) := goodIn_app (goodIn_of _ (by decide +kernel)) ggL_act_X4_offer
set_option maxRecDepth 20000 in
theorem ggL_act_X4_endTerm : GoodIn wsL_act wsX4_endTerm := goodIn_r _ [181, 19, 7, 182, 61, 62, 63, 64, 65, 66, 67, 68, 69, 70, 44, 71, 72, 73, 74, 30, 75, 41, 32, 76, 77, 78, 50, 79, 80, 81, 82, 83, 84, 85, 86, 87, 88, 4, 89, 90, 91, 92, 93, 94, 24, 25, 26, 183, 184, 185, 186, 173, 212, 213, 214, 215, 216, 217, 218, 219, 220, 221, 222, 223, 224, 225, 226, 227, 228, 229, 230, 231, 232, 235, 236, 237] (by decide +kernel) (by decide +kernel)
set_option maxRecDepth 20000 in
theorem gL_act_X4_endTerm : GoodIn wsL_act (wsV RL 91 RX4 yX4_endTerm wsX4_endTerm) := goodIn_app (goodIn_of _ (by decide +kernel)) ggL_act_X4_endTerm
set_option maxRecDepth 20000 in
theorem ggL_act_X4_pupil : GoodIn wsL_act wsX4_pupil := goodIn_r _ [190, 7, 15, 12, 10, 191, 192, 16, 13, 123, 124, 4, 125, 21, 22, 23, 193, 194, 195, 30, 196, 115, 116, 117, 118, 50, 197, 51, 52, 212, 213, 214, 215, 216, 217, 218, 219, 220, 221, 222, 223, 224, 225, 226, 227, 228, 229, 230, 231, 232] (by decide +kernel) (by decide +kernel)
set_option maxRecDepth 20000 in
theorem gL_act_X4_pupil : GoodIn wsL_act (wsV RL 20 RX4 yX4_pupil wsX4_pupil) := goodIn_app (goodIn_of _ (by decide +kernel)) ggL_act_X4_pupil
set_option maxRecDepth 20000 in
theorem ggL_act_X4_pay : GoodIn wsL_act wsX4_pay := goodIn_r _ [201, 7, 12, 19, 13, 123, 124, 4, 125, 21, 22, 23, 61, 62, 63, 64, 65, 66, 67, 68, 69, 70, 44, 71, 72, 73, 74, 30, 75, 41, 32, 76, 77, 78, 50, 79, 80, 81, 82, 83, 84, 85, 86, 87, 88, 89, 90, 91, 92, 93, 94, 212, 213, 214, 215, 216, 217, 218, 219, 220, 221, 222, 223, 224, 225, 226, 227, 228, 229, 230, 231, 232, 235, 236, 237] (by decide +kernel) (by decide +kernel)
set_option maxRecDepth 20000 in
theorem gL_act_X4_pay : GoodIn wsL_act (wsV RL 48 RX4 yX4_pay wsX4_pay) := goodIn_app (goodIn_of _ (by decide +kernel)) ggL_act_X4_pay
set_option maxRecDepth 20000 in
theorem ggL_act_X4_worth : GoodIn wsL_act wsX4_worth := goodIn_r _ [205, 7, 19, 104, 106, 107, 108, 30, 109, 32, 21, 22, 4, 23, 61, 62, 63, 64, 65, 66, 67, 68, 69, 70, 44, 71, 72, 73, 74, 75, 41, 76, 77, 78, 50, 79, 80, 81, 82, 83, 84, 85, 86, 87, 88, 89, 90, 91, 92, 93, 94, 212, 213, 214, 215, 216, 217, 218, 219, 220, 221, 222, 223, 224, 225, 226, 227, 228, 229, 230, 231, 232, 235, 236, 237] (by decide +kernel) (by decide +kernel)
set_option maxRecDepth 20000 in
theorem gL_act_X4_worth : GoodIn wsL_act (wsV RL 41 RX4 yX4_worth wsX4_worth) := goodIn_app (goodIn_of _ (by decide +kernel)) ggL_act_X4_worth
set_option maxRecDepth 20000 in
theorem ggL_act_X4_set : GoodIn wsL_act wsX4_set := goodIn_r _ [209, 6, 210, 211, 19, 7, 8, 21, 22, 4, 23, 61, 62, 63, 64, 65, 66, 67, 68, 69, 70, 44, 71, 72, 73, 74, 30, 75, 41, 32, 76, 77, 78, 50, 79, 80, 81, 82, 83, 84, 85, 86, 87, 88, 89, 90, 91, 92, 93, 94, 212, 213, 214, 215, 216, 217, 218, 219, 220, 221, 222, 223, 224, 225, 226, 227, 228, 229, 230, 231, 232, 235, 236, 237] (by decide +kernel) (by decide +kernel)
set_option maxRecDepth 20000 in
theorem gL_act_X4_set : GoodIn wsL_act (wsV RL 35 RX4 yX4_set wsX4_set) := goodIn_app (goodIn_of _ (by decide +kernel)) ggL_act_X4_set
theorem dL_act_0 : decode cL_act 0 = .ok (.iload_n 1, 1) := by decide +kernel
theorem dL_act_1 : decode cL_act 1 = .ok (.bipush 16, 2) := by decide +kernel
theorem dL_act_3 : decode cL_act 3 = .ok (.irem, 1) := by decide +kernel
theorem dL_act_4 : decode cL_act 4 = .ok (.istore_n 2, 1) := by decide +kernel
theorem dL_act_5 : decode cL_act 5 = .ok (.iload_n 1, 1) := by decide +kernel
theorem dL_act_6 : decode cL_act 6 = .ok (.bipush 16, 2) := by decide +kernel
theorem dL_act_8 : decode cL_act 8 = .ok (.idiv, 1) := by decide +kernel
theorem dL_act_9 : decode cL_act 9 = .ok (.istore_n 3, 1) := by decide +kernel
theorem dL_act_10 : decode cL_act 10 = .ok (.aload_n 0, 1) := by decide +kernel
theorem dL_act_11 : decode cL_act 11 = .ok (.iconst 5, 1) := by decide +kernel
theorem dL_act_12 : decode cL_act 12 = .ok (.invokevirtual 14, 3) := by decide +kernel
theorem dL_act_15 : decode cL_act 15 = .ok (.istore 4, 2) := by decide +kernel
theorem dL_act_17 : decode cL_act 17 = .ok (.iload_n 2, 1) := by decide +kernel
theorem dL_act_18 : decode cL_act 18 = .ok (.iconst 2, 1) := by decide +kernel
theorem dL_act_19 : decode cL_act 19 = .ok (.if_icmp .lt 8, 3) := by decide +kernel
theorem dL_act_22 : decode cL_act 22 = .ok (.iload 4, 2) := by decide +kernel
theorem dL_act_24 : decode cL_act 24 = .ok (.ifCond .ne 110, 3) := by decide +kernel
theorem dL_act_27 : decode cL_act 27 = .ok (.aload_n 0, 1) := by decide +kernel
theorem dL_act_28 : decode cL_act 28 = .ok (.iload_n 3, 1) := by decide +kernel
theorem dL_act_29 : decode cL_act 29 = .ok (.iconst 5, 1) := by decide +kernel
theorem dL_act_30 : decode cL_act 30 = .ok (.irem, 1) := by decide +kernel
theorem dL_act_31 : decode cL_act 31 = .ok (.iconst 1, 1) := by decide +kernel
theorem dL_act_32 : decode cL_act 32 = .ok (.iload_n 3, 1) := by decide +kernel
theorem dL_act_33 : decode cL_act 33 = .ok (.iconst 5, 1) := by decide +kernel
theorem dL_act_34 : decode cL_act 34 = .ok (.idiv, 1) := by decide +kernel
theorem dL_act_35 : decode cL_act 35 = .ok (.bipush 99, 2) := by decide +kernel
theorem dL_act_37 : decode cL_act 37 = .ok (.irem, 1) := by decide +kernel
theorem dL_act_38 : decode cL_act 38 = .ok (.iadd, 1) := by decide +kernel
theorem dL_act_39 : decode cL_act 39 = .ok (.invokevirtual 38, 3) := by decide +kernel
theorem dL_act_42 : decode cL_act 42 = .ok (.istore 5, 2) := by decide +kernel
theorem dL_act_44 : decode cL_act 44 = .ok (.iload 4, 2) := by decide +kernel
theorem dL_act_46 : decode cL_act 46 = .ok (.bipush 12, 2) := by decide +kernel
theorem dL_act_48 : decode cL_act 48 = .ok (.if_icmp .ne 19, 3) := by decide +kernel
theorem dL_act_51 : decode cL_act 51 = .ok (.iload 5, 2) := by decide +kernel
theorem dL_act_53 : decode cL_act 53 = .ok (.bipush (-4), 2) := by decide +kernel
theorem dL_act_55 : decode cL_act 55 = .ok (.if_icmp .ne 7, 3) := by decide +kernel
theorem dL_act_58 : decode cL_act 58 = .ok (.iconst 0, 1) := by decide +kernel
theorem dL_act_59 : decode cL_act 59 = .ok (.goto 74, 3) := by decide +kernel
theorem dL_act_62 : decode cL_act 62 = .ok (.bipush (-9), 2) := by decide +kernel
theorem dL_act_64 : decode cL_act 64 = .ok (.goto 69, 3) := by decide +kernel
theorem dL_act_67 : decode cL_act 67 = .ok (.iload 5, 2) := by decide +kernel
theorem dL_act_69 : decode cL_act 69 = .ok (.iload 4, 2) := by decide +kernel
theorem dL_act_71 : decode cL_act 71 = .ok (.if_icmp .ne 60, 3) := by decide +kernel
theorem dL_act_74 : decode cL_act 74 = .ok (.aload_n 0, 1) := by decide +kernel
theorem dL_act_75 : decode cL_act 75 = .ok (.iload 5, 2) := by decide +kernel
theorem dL_act_77 : decode cL_act 77 = .ok (.iconst 0, 1) := by decide +kernel
theorem dL_act_78 : decode cL_act 78 = .ok (.invokevirtual 24, 3) := by decide +kernel
theorem dL_act_81 : decode cL_act 81 = .ok (.iload_n 3, 1) := by decide +kernel
theorem dL_act_82 : decode cL_act 82 = .ok (.iconst 5, 1) := by decide +kernel
theorem dL_act_83 : decode cL_act 83 = .ok (.irem, 1) := by decide +kernel
theorem dL_act_84 : decode cL_act 84 = .ok (.if_icmp .ne 47, 3) := by decide +kernel
theorem dL_act_87 : decode cL_act 87 = .ok (.aload_n 0, 1) := by decide +kernel
theorem dL_act_88 : decode cL_act 88 = .ok (.iload 5, 2) := by decide +kernel
theorem dL_act_90 : decode cL_act 90 = .ok (.iconst 1, 1) := by decide +kernel
theorem dL_act_91 : decode cL_act 91 = .ok (.invokevirtual 24, 3) := by decide +kernel
theorem dL_act_94 : decode cL_act 94 = .ok (.iconst 1, 1) := by decide +kernel
theorem dL_act_95 : decode cL_act 95 = .ok (.iload_n 3, 1) := by decide +kernel
theorem dL_act_96 : decode cL_act 96 = .ok (.iconst 5, 1) := by decide +kernel
theorem dL_act_97 : decode cL_act 97 = .ok (.idiv, 1) := by decide +kernel
theorem dL_act_98 : decode cL_act 98 = .ok (.bipush 99, 2) := by decide +kernel
theorem dL_act_100 : decode cL_act 100 = .ok (.irem, 1) := by decide +kernel
theorem dL_act_101 : decode cL_act 101 = .ok (.iadd, 1) := by decide +kernel
theorem dL_act_102 : decode cL_act 102 = .ok (.if_icmp .ne 29, 3) := by decide +kernel
theorem dL_act_105 : decode cL_act 105 = .ok (.aload_n 0, 1) := by decide +kernel
theorem dL_act_106 : decode cL_act 106 = .ok (.iload 5, 2) := by decide +kernel
theorem dL_act_108 : decode cL_act 108 = .ok (.iconst 2, 1) := by decide +kernel
theorem dL_act_109 : decode cL_act 109 = .ok (.invokevirtual 24, 3) := by decide +kernel
theorem dL_act_112 : decode cL_act 112 = .ok (.ifCond .ne 19, 3) := by decide +kernel
theorem dL_act_115 : decode cL_act 115 = .ok (.aload_n 0, 1) := by decide +kernel
theorem dL_act_116 : decode cL_act 116 = .ok (.iconst 0, 1) := by decide +kernel
theorem dL_act_117 : decode cL_act 117 = .ok (.iload 5, 2) := by decide +kernel
theorem dL_act_119 : decode cL_act 119 = .ok (.invokevirtual 27, 3) := by decide +kernel
theorem dL_act_122 : decode cL_act 122 = .ok (.bipush 100, 2) := by decide +kernel
theorem dL_act_124 : decode cL_act 124 = .ok (.if_icmp .ne 7, 3) := by decide +kernel
theorem dL_act_127 : decode cL_act 127 = .ok (.iconst 1, 1) := by decide +kernel
theorem dL_act_128 : decode cL_act 128 = .ok (.goto 5, 3) := by decide +kernel
theorem dL_act_131 : decode cL_act 131 = .ok (.bipush (-9), 2) := by decide +kernel
theorem dL_act_133 : decode cL_act 133 = .ok (.ireturn, 1) := by decide +kernel
theorem dL_act_134 : decode cL_act 134 = .ok (.iload_n 3, 1) := by decide +kernel
theorem dL_act_135 : decode cL_act 135 = .ok (.iload 4, 2) := by decide +kernel
theorem dL_act_137 : decode cL_act 137 = .ok (.irem, 1) := by decide +kernel
theorem dL_act_138 : decode cL_act 138 = .ok (.istore 5, 2) := by decide +kernel
theorem dL_act_140 : decode cL_act 140 = .ok (.iload_n 3, 1) := by decide +kernel
theorem dL_act_141 : decode cL_act 141 = .ok (.bipush 12, 2) := by decide +kernel
theorem dL_act_143 : decode cL_act 143 = .ok (.idiv, 1) := by decide +kernel
theorem dL_act_144 : decode cL_act 144 = .ok (.bipush 10, 2) := by decide +kernel
theorem dL_act_146 : decode cL_act 146 = .ok (.irem, 1) := by decide +kernel
theorem dL_act_147 : decode cL_act 147 = .ok (.istore 6, 2) := by decide +kernel
theorem dL_act_149 : decode cL_act 149 = .ok (.iload_n 2, 1) := by decide +kernel
theorem dL_act_150 : decode cL_act 150 = .ok (.bipush 12, 2) := by decide +kernel
theorem dL_act_152 : decode cL_act 152 = .ok (.if_icmp .ge 281, 3) := by decide +kernel
theorem dL_act_155 : decode cL_act 155 = .ok (.iload_n 3, 1) := by decide +kernel
theorem dL_act_156 : decode cL_act 156 = .ok (.bipush 120, 2) := by decide +kernel
theorem dL_act_158 : decode cL_act 158 = .ok (.idiv, 1) := by decide +kernel
theorem dL_act_159 : decode cL_act 159 = .ok (.iconst 3, 1) := by decide +kernel
theorem dL_act_160 : decode cL_act 160 = .ok (.irem, 1) := by decide +kernel
theorem dL_act_161 : decode cL_act 161 = .ok (.ifCond .ne 8, 3) := by decide +kernel
theorem dL_act_164 : decode cL_act 164 = .ok (.bipush (-6), 2) := by decide +kernel
theorem dL_act_166 : decode cL_act 166 = .ok (.goto 19, 3) := by decide +kernel
theorem dL_act_169 : decode cL_act 169 = .ok (.iload 6, 2) := by decide +kernel
theorem dL_act_171 : decode cL_act 171 = .ok (.iconst 1, 1) := by decide +kernel
theorem dL_act_172 : decode cL_act 172 = .ok (.iadd, 1) := by decide +kernel
theorem dL_act_173 : decode cL_act 173 = .ok (.iload_n 3, 1) := by decide +kernel
theorem dL_act_174 : decode cL_act 174 = .ok (.sipush 360, 3) := by decide +kernel
theorem dL_act_177 : decode cL_act 177 = .ok (.idiv, 1) := by decide +kernel
theorem dL_act_178 : decode cL_act 178 = .ok (.bipush 9, 2) := by decide +kernel
theorem dL_act_180 : decode cL_act 180 = .ok (.irem, 1) := by decide +kernel
theorem dL_act_181 : decode cL_act 181 = .ok (.iadd, 1) := by decide +kernel
theorem dL_act_182 : decode cL_act 182 = .ok (.bipush 10, 2) := by decide +kernel
theorem dL_act_184 : decode cL_act 184 = .ok (.irem, 1) := by decide +kernel
theorem dL_act_185 : decode cL_act 185 = .ok (.istore 7, 2) := by decide +kernel
theorem dL_act_187 : decode cL_act 187 = .ok (.iconst 1, 1) := by decide +kernel
theorem dL_act_188 : decode cL_act 188 = .ok (.iload_n 3, 1) := by decide +kernel
theorem dL_act_189 : decode cL_act 189 = .ok (.sipush 3240, 3) := by decide +kernel
theorem dL_act_192 : decode cL_act 192 = .ok (.idiv, 1) := by decide +kernel
theorem dL_act_193 : decode cL_act 193 = .ok (.iload_n 3, 1) := by decide +kernel
theorem dL_act_194 : decode cL_act 194 = .ok (.iconst 2, 1) := by decide +kernel
theorem dL_act_195 : decode cL_act 195 = .ok (.irem, 1) := by decide +kernel
theorem dL_act_196 : decode cL_act 196 = .ok (.ifCond .ne 8, 3) := by decide +kernel
theorem dL_act_199 : decode cL_act 199 = .ok (.bipush 99, 2) := by decide +kernel
theorem dL_act_201 : decode cL_act 201 = .ok (.goto 5, 3) := by decide +kernel
theorem dL_act_204 : decode cL_act 204 = .ok (.bipush 12, 2) := by decide +kernel
theorem dL_act_206 : decode cL_act 206 = .ok (.irem, 1) := by decide +kernel
theorem dL_act_207 : decode cL_act 207 = .ok (.iadd, 1) := by decide +kernel
theorem dL_act_208 : decode cL_act 208 = .ok (.istore 8, 2) := by decide +kernel
theorem dL_act_210 : decode cL_act 210 = .ok (.aload_n 0, 1) := by decide +kernel
theorem dL_act_211 : decode cL_act 211 = .ok (.iload 6, 2) := by decide +kernel
theorem dL_act_213 : decode cL_act 213 = .ok (.iload 5, 2) := by decide +kernel
theorem dL_act_215 : decode cL_act 215 = .ok (.iload 7, 2) := by decide +kernel
theorem dL_act_217 : decode cL_act 217 = .ok (.iload 8, 2) := by decide +kernel
theorem dL_act_219 : decode cL_act 219 = .ok (.invokevirtual 51, 3) := by decide +kernel
theorem dL_act_222 : decode cL_act 222 = .ok (.istore 9, 2) := by decide +kernel
theorem dL_act_224 : decode cL_act 224 = .ok (.aload_n 0, 1) := by decide +kernel
theorem dL_act_225 : decode cL_act 225 = .ok (.iload 6, 2) := by decide +kernel
theorem dL_act_227 : decode cL_act 227 = .ok (.iload 5, 2) := by decide +kernel
theorem dL_act_229 : decode cL_act 229 = .ok (.iload 7, 2) := by decide +kernel
theorem dL_act_231 : decode cL_act 231 = .ok (.iload 8, 2) := by decide +kernel
theorem dL_act_233 : decode cL_act 233 = .ok (.invokevirtual 54, 3) := by decide +kernel
theorem dL_act_236 : decode cL_act 236 = .ok (.istore 10, 2) := by decide +kernel
theorem dL_act_238 : decode cL_act 238 = .ok (.aload_n 0, 1) := by decide +kernel
theorem dL_act_239 : decode cL_act 239 = .ok (.bipush 6, 2) := by decide +kernel
theorem dL_act_241 : decode cL_act 241 = .ok (.invokevirtual 14, 3) := by decide +kernel
theorem dL_act_244 : decode cL_act 244 = .ok (.istore 11, 2) := by decide +kernel
theorem dL_act_246 : decode cL_act 246 = .ok (.aload_n 0, 1) := by decide +kernel
theorem dL_act_247 : decode cL_act 247 = .ok (.bipush 13, 2) := by decide +kernel
theorem dL_act_249 : decode cL_act 249 = .ok (.invokevirtual 14, 3) := by decide +kernel
theorem dL_act_252 : decode cL_act 252 = .ok (.istore 12, 2) := by decide +kernel
theorem dL_act_254 : decode cL_act 254 = .ok (.aload_n 0, 1) := by decide +kernel
theorem dL_act_255 : decode cL_act 255 = .ok (.bipush 15, 2) := by decide +kernel
theorem dL_act_257 : decode cL_act 257 = .ok (.invokevirtual 14, 3) := by decide +kernel
theorem dL_act_260 : decode cL_act 260 = .ok (.istore 13, 2) := by decide +kernel
theorem dL_act_262 : decode cL_act 262 = .ok (.aload_n 0, 1) := by decide +kernel
theorem dL_act_263 : decode cL_act 263 = .ok (.iload 6, 2) := by decide +kernel
theorem dL_act_265 : decode cL_act 265 = .ok (.iload 5, 2) := by decide +kernel
theorem dL_act_267 : decode cL_act 267 = .ok (.iload 7, 2) := by decide +kernel
theorem dL_act_269 : decode cL_act 269 = .ok (.iload 8, 2) := by decide +kernel
theorem dL_act_271 : decode cL_act 271 = .ok (.invokevirtual 44, 3) := by decide +kernel
theorem dL_act_274 : decode cL_act 274 = .ok (.istore 14, 2) := by decide +kernel
theorem dL_act_276 : decode cL_act 276 = .ok (.iload 14, 2) := by decide +kernel
theorem dL_act_278 : decode cL_act 278 = .ok (.iload 9, 2) := by decide +kernel
theorem dL_act_280 : decode cL_act 280 = .ok (.if_icmp .ne 150, 3) := by decide +kernel
theorem dL_act_283 : decode cL_act 283 = .ok (.iload 9, 2) := by decide +kernel
theorem dL_act_285 : decode cL_act 285 = .ok (.ifCond .lt 145, 3) := by decide +kernel
theorem dL_act_288 : decode cL_act 288 = .ok (.iload 9, 2) := by decide +kernel
theorem dL_act_290 : decode cL_act 290 = .ok (.iconst 5, 1) := by decide +kernel
theorem dL_act_291 : decode cL_act 291 = .ok (.if_icmp .ge 139, 3) := by decide +kernel
theorem dL_act_294 : decode cL_act 294 = .ok (.iload 9, 2) := by decide +kernel
theorem dL_act_296 : decode cL_act 296 = .ok (.ifCond .gt 17, 3) := by decide +kernel
theorem dL_act_299 : decode cL_act 299 = .ok (.iload 10, 2) := by decide +kernel
theorem dL_act_301 : decode cL_act 301 = .ok (.sipush 1000, 3) := by decide +kernel
theorem dL_act_304 : decode cL_act 304 = .ok (.aload_n 0, 1) := by decide +kernel
theorem dL_act_305 : decode cL_act 305 = .ok (.iconst 0, 1) := by decide +kernel
theorem dL_act_306 : decode cL_act 306 = .ok (.invokevirtual 14, 3) := by decide +kernel
theorem dL_act_309 : decode cL_act 309 = .ok (.iadd, 1) := by decide +kernel
theorem dL_act_310 : decode cL_act 310 = .ok (.if_icmp .lt 120, 3) := by decide +kernel
theorem dL_act_313 : decode cL_act 313 = .ok (.iload 9, 2) := by decide +kernel
theorem dL_act_315 : decode cL_act 315 = .ok (.iconst 4, 1) := by decide +kernel
theorem dL_act_316 : decode cL_act 316 = .ok (.if_icmp .ne 17, 3) := by decide +kernel
theorem dL_act_319 : decode cL_act 319 = .ok (.iload 10, 2) := by decide +kernel
theorem dL_act_321 : decode cL_act 321 = .ok (.sipush 1000, 3) := by decide +kernel
theorem dL_act_324 : decode cL_act 324 = .ok (.aload_n 0, 1) := by decide +kernel
theorem dL_act_325 : decode cL_act 325 = .ok (.iconst 0, 1) := by decide +kernel
theorem dL_act_326 : decode cL_act 326 = .ok (.invokevirtual 14, 3) := by decide +kernel
theorem dL_act_329 : decode cL_act 329 = .ok (.iadd, 1) := by decide +kernel
theorem dL_act_330 : decode cL_act 330 = .ok (.if_icmp .ge 100, 3) := by decide +kernel
theorem dL_act_333 : decode cL_act 333 = .ok (.aload_n 0, 1) := by decide +kernel
theorem dL_act_334 : decode cL_act 334 = .ok (.bipush 6, 2) := by decide +kernel
theorem dL_act_336 : decode cL_act 336 = .ok (.invokevirtual 14, 3) := by decide +kernel
theorem dL_act_339 : decode cL_act 339 = .ok (.iload 11, 2) := by decide +kernel
theorem dL_act_341 : decode cL_act 341 = .ok (.iload 9, 2) := by decide +kernel
theorem dL_act_343 : decode cL_act 343 = .ok (.ifCond .ne 7, 3) := by decide +kernel
theorem dL_act_346 : decode cL_act 346 = .ok (.iconst 1, 1) := by decide +kernel
theorem dL_act_347 : decode cL_act 347 = .ok (.goto 4, 3) := by decide +kernel
theorem dL_act_350 : decode cL_act 350 = .ok (.iconst 0, 1) := by decide +kernel
theorem dL_act_351 : decode cL_act 351 = .ok (.iadd, 1) := by decide +kernel
theorem dL_act_352 : decode cL_act 352 = .ok (.if_icmp .ne 78, 3) := by decide +kernel
theorem dL_act_355 : decode cL_act 355 = .ok (.aload_n 0, 1) := by decide +kernel
theorem dL_act_356 : decode cL_act 356 = .ok (.bipush 13, 2) := by decide +kernel
theorem dL_act_358 : decode cL_act 358 = .ok (.invokevirtual 14, 3) := by decide +kernel
theorem dL_act_361 : decode cL_act 361 = .ok (.iload 12, 2) := by decide +kernel
theorem dL_act_363 : decode cL_act 363 = .ok (.iload 9, 2) := by decide +kernel
theorem dL_act_365 : decode cL_act 365 = .ok (.ifCond .le 14, 3) := by decide +kernel
theorem dL_act_368 : decode cL_act 368 = .ok (.aload_n 0, 1) := by decide +kernel
theorem dL_act_369 : decode cL_act 369 = .ok (.iconst 3, 1) := by decide +kernel
theorem dL_act_370 : decode cL_act 370 = .ok (.invokevirtual 14, 3) := by decide +kernel
theorem dL_act_373 : decode cL_act 373 = .ok (.iload 8, 2) := by decide +kernel
theorem dL_act_375 : decode cL_act 375 = .ok (.imul, 1) := by decide +kernel
theorem dL_act_376 : decode cL_act 376 = .ok (.goto 4, 3) := by decide +kernel
theorem dL_act_379 : decode cL_act 379 = .ok (.iconst 0, 1) := by decide +kernel
theorem dL_act_380 : decode cL_act 380 = .ok (.iadd, 1) := by decide +kernel
theorem dL_act_381 : decode cL_act 381 = .ok (.if_icmp .ne 49, 3) := by decide +kernel
theorem dL_act_384 : decode cL_act 384 = .ok (.aload_n 0, 1) := by decide +kernel
theorem dL_act_385 : decode cL_act 385 = .ok (.bipush 15, 2) := by decide +kernel
theorem dL_act_387 : decode cL_act 387 = .ok (.invokevirtual 14, 3) := by decide +kernel
theorem dL_act_390 : decode cL_act 390 = .ok (.iload 13, 2) := by decide +kernel
theorem dL_act_392 : decode cL_act 392 = .ok (.if_icmp .gt 38, 3) := by decide +kernel
theorem dL_act_395 : decode cL_act 395 = .ok (.aload_n 0, 1) := by decide +kernel
theorem dL_act_396 : decode cL_act 396 = .ok (.bipush 15, 2) := by decide +kernel
theorem dL_act_398 : decode cL_act 398 = .ok (.invokevirtual 14, 3) := by decide +kernel
theorem dL_act_401 : decode cL_act 401 = .ok (.iload 13, 2) := by decide +kernel
theorem dL_act_403 : decode cL_act 403 = .ok (.iconst 2, 1) := by decide +kernel
theorem dL_act_404 : decode cL_act 404 = .ok (.isub, 1) := by decide +kernel
theorem dL_act_405 : decode cL_act 405 = .ok (.if_icmp .lt 25, 3) := by decide +kernel
theorem dL_act_408 : decode cL_act 408 = .ok (.iload 7, 2) := by decide +kernel
theorem dL_act_410 : decode cL_act 410 = .ok (.bipush (-6), 2) := by decide +kernel
theorem dL_act_412 : decode cL_act 412 = .ok (.if_icmp .ne 14, 3) := by decide +kernel
theorem dL_act_415 : decode cL_act 415 = .ok (.aload_n 0, 1) := by decide +kernel
theorem dL_act_416 : decode cL_act 416 = .ok (.bipush 15, 2) := by decide +kernel
theorem dL_act_418 : decode cL_act 418 = .ok (.invokevirtual 14, 3) := by decide +kernel
theorem dL_act_421 : decode cL_act 421 = .ok (.iload 13, 2) := by decide +kernel
theorem dL_act_423 : decode cL_act 423 = .ok (.if_icmp .ne 7, 3) := by decide +kernel
theorem dL_act_426 : decode cL_act 426 = .ok (.iconst 1, 1) := by decide +kernel
theorem dL_act_427 : decode cL_act 427 = .ok (.goto 5, 3) := by decide +kernel
theorem dL_act_430 : decode cL_act 430 = .ok (.bipush (-9), 2) := by decide +kernel
theorem dL_act_432 : decode cL_act 432 = .ok (.ireturn, 1) := by decide +kernel
theorem dL_act_433 : decode cL_act 433 = .ok (.iload_n 2, 1) := by decide +kernel
theorem dL_act_434 : decode cL_act 434 = .ok (.bipush 12, 2) := by decide +kernel
theorem dL_act_436 : decode cL_act 436 = .ok (.if_icmp .ne 175, 3) := by decide +kernel
theorem dL_act_439 : decode cL_act 439 = .ok (.aload_n 0, 1) := by decide +kernel
theorem dL_act_440 : decode cL_act 440 = .ok (.bipush 11, 2) := by decide +kernel
theorem dL_act_442 : decode cL_act 442 = .ok (.invokevirtual 14, 3) := by decide +kernel
theorem dL_act_445 : decode cL_act 445 = .ok (.istore 7, 2) := by decide +kernel
theorem dL_act_447 : decode cL_act 447 = .ok (.aload_n 0, 1) := by decide +kernel
theorem dL_act_448 : decode cL_act 448 = .ok (.iconst 1, 1) := by decide +kernel
theorem dL_act_449 : decode cL_act 449 = .ok (.invokevirtual 14, 3) := by decide +kernel
theorem dL_act_452 : decode cL_act 452 = .ok (.istore 8, 2) := by decide +kernel
theorem dL_act_454 : decode cL_act 454 = .ok (.aload_n 0, 1) := by decide +kernel
theorem dL_act_455 : decode cL_act 455 = .ok (.invokevirtual 91, 3) := by decide +kernel
theorem dL_act_458 : decode cL_act 458 = .ok (.istore 9, 2) := by decide +kernel
theorem dL_act_460 : decode cL_act 460 = .ok (.iload 9, 2) := by decide +kernel
theorem dL_act_462 : decode cL_act 462 = .ok (.ifCond .lt 48, 3) := by decide +kernel
theorem dL_act_465 : decode cL_act 465 = .ok (.iload 9, 2) := by decide +kernel
theorem dL_act_467 : decode cL_act 467 = .ok (.aload_n 0, 1) := by decide +kernel
theorem dL_act_468 : decode cL_act 468 = .ok (.bipush 6, 2) := by decide +kernel
theorem dL_act_470 : decode cL_act 470 = .ok (.invokevirtual 14, 3) := by decide +kernel
theorem dL_act_473 : decode cL_act 473 = .ok (.if_icmp .gt 37, 3) := by decide +kernel
theorem dL_act_476 : decode cL_act 476 = .ok (.aload_n 0, 1) := by decide +kernel
theorem dL_act_477 : decode cL_act 477 = .ok (.bipush 11, 2) := by decide +kernel
theorem dL_act_479 : decode cL_act 479 = .ok (.invokevirtual 14, 3) := by decide +kernel
theorem dL_act_482 : decode cL_act 482 = .ok (.iload 7, 2) := by decide +kernel
theorem dL_act_484 : decode cL_act 484 = .ok (.if_icmp .ne 26, 3) := by decide +kernel
theorem dL_act_487 : decode cL_act 487 = .ok (.aload_n 0, 1) := by decide +kernel
theorem dL_act_488 : decode cL_act 488 = .ok (.iconst 1, 1) := by decide +kernel
theorem dL_act_489 : decode cL_act 489 = .ok (.invokevirtual 14, 3) := by decide +kernel
theorem dL_act_492 : decode cL_act 492 = .ok (.iload 8, 2) := by decide +kernel
theorem dL_act_494 : decode cL_act 494 = .ok (.if_icmp .ne 16, 3) := by decide +kernel
theorem dL_act_497 : decode cL_act 497 = .ok (.aload_n 0, 1) := by decide +kernel
theorem dL_act_498 : decode cL_act 498 = .ok (.bipush 17, 2) := by decide +kernel
theorem dL_act_500 : decode cL_act 500 = .ok (.invokevirtual 14, 3) := by decide +kernel
theorem dL_act_503 : decode cL_act 503 = .ok (.ifCond .ne 7, 3) := by decide +kernel
theorem dL_act_506 : decode cL_act 506 = .ok (.iconst 1, 1) := by decide +kernel
theorem dL_act_507 : decode cL_act 507 = .ok (.goto 4, 3) := by decide +kernel
theorem dL_act_510 : decode cL_act 510 = .ok (.iconst 0, 1) := by decide +kernel
theorem dL_act_511 : decode cL_act 511 = .ok (.istore 10, 2) := by decide +kernel
theorem dL_act_513 : decode cL_act 513 = .ok (.iconst 0, 1) := by decide +kernel
theorem dL_act_514 : decode cL_act 514 = .ok (.istore 11, 2) := by decide +kernel
theorem dL_act_516 : decode cL_act 516 = .ok (.iload 11, 2) := by decide +kernel
theorem dL_act_518 : decode cL_act 518 = .ok (.bipush 10, 2) := by decide +kernel
theorem dL_act_520 : decode cL_act 520 = .ok (.if_icmp .ge 79, 3) := by decide +kernel
theorem dL_act_523 : decode cL_act 523 = .ok (.iload 10, 2) := by decide +kernel
theorem dL_act_525 : decode cL_act 525 = .ok (.ifCond .eq 65, 3) := by decide +kernel
theorem dL_act_528 : decode cL_act 528 = .ok (.aload_n 0, 1) := by decide +kernel
theorem dL_act_529 : decode cL_act 529 = .ok (.iload 11, 2) := by decide +kernel
theorem dL_act_531 : decode cL_act 531 = .ok (.iconst 4, 1) := by decide +kernel
theorem dL_act_532 : decode cL_act 532 = .ok (.invokevirtual 20, 3) := by decide +kernel
theorem dL_act_535 : decode cL_act 535 = .ok (.bipush (-6), 2) := by decide +kernel
theorem dL_act_537 : decode cL_act 537 = .ok (.if_icmp .ne 53, 3) := by decide +kernel
theorem dL_act_540 : decode cL_act 540 = .ok (.aload_n 0, 1) := by decide +kernel
theorem dL_act_541 : decode cL_act 541 = .ok (.iload 11, 2) := by decide +kernel
theorem dL_act_543 : decode cL_act 543 = .ok (.iconst 5, 1) := by decide +kernel
theorem dL_act_544 : decode cL_act 544 = .ok (.invokevirtual 20, 3) := by decide +kernel
theorem dL_act_547 : decode cL_act 547 = .ok (.ifCond .ne 43, 3) := by decide +kernel
theorem dL_act_550 : decode cL_act 550 = .ok (.aload_n 0, 1) := by decide +kernel
theorem dL_act_551 : decode cL_act 551 = .ok (.iload 11, 2) := by decide +kernel
theorem dL_act_553 : decode cL_act 553 = .ok (.iconst 0, 1) := by decide +kernel
theorem dL_act_554 : decode cL_act 554 = .ok (.invokevirtual 20, 3) := by decide +kernel
theorem dL_act_557 : decode cL_act 557 = .ok (.iconst 1, 1) := by decide +kernel
theorem dL_act_558 : decode cL_act 558 = .ok (.if_icmp .le 32, 3) := by decide +kernel
theorem dL_act_561 : decode cL_act 561 = .ok (.aload_n 0, 1) := by decide +kernel
theorem dL_act_562 : decode cL_act 562 = .ok (.iload 11, 2) := by decide +kernel
theorem dL_act_564 : decode cL_act 564 = .ok (.bipush 6, 2) := by decide +kernel
theorem dL_act_566 : decode cL_act 566 = .ok (.invokevirtual 20, 3) := by decide +kernel
theorem dL_act_569 : decode cL_act 569 = .ok (.iconst 5, 1) := by decide +kernel
theorem dL_act_570 : decode cL_act 570 = .ok (.if_icmp .ge 20, 3) := by decide +kernel
theorem dL_act_573 : decode cL_act 573 = .ok (.aload_n 0, 1) := by decide +kernel
theorem dL_act_574 : decode cL_act 574 = .ok (.iload 11, 2) := by decide +kernel
theorem dL_act_576 : decode cL_act 576 = .ok (.iload 5, 2) := by decide +kernel
theorem dL_act_578 : decode cL_act 578 = .ok (.invokevirtual 27, 3) := by decide +kernel
theorem dL_act_581 : decode cL_act 581 = .ok (.bipush 100, 2) := by decide +kernel
theorem dL_act_583 : decode cL_act 583 = .ok (.if_icmp .ne 7, 3) := by decide +kernel
theorem dL_act_586 : decode cL_act 586 = .ok (.iconst 1, 1) := by decide +kernel
theorem dL_act_587 : decode cL_act 587 = .ok (.goto 4, 3) := by decide +kernel
theorem dL_act_590 : decode cL_act 590 = .ok (.iconst 0, 1) := by decide +kernel
theorem dL_act_591 : decode cL_act 591 = .ok (.istore 10, 2) := by decide +kernel
theorem dL_act_593 : decode cL_act 593 = .ok (.iinc 11 1, 3) := by decide +kernel
theorem dL_act_596 : decode cL_act 596 = .ok (.goto (-80), 3) := by decide +kernel
theorem dL_act_599 : decode cL_act 599 = .ok (.iload 10, 2) := by decide +kernel
theorem dL_act_601 : decode cL_act 601 = .ok (.ifCond .eq 7, 3) := by decide +kernel
theorem dL_act_604 : decode cL_act 604 = .ok (.iconst 1, 1) := by decide +kernel
theorem dL_act_605 : decode cL_act 605 = .ok (.goto 5, 3) := by decide +kernel
theorem dL_act_608 : decode cL_act 608 = .ok (.bipush (-9), 2) := by decide +kernel
theorem dL_act_610 : decode cL_act 610 = .ok (.ireturn, 1) := by decide +kernel
theorem dL_act_611 : decode cL_act 611 = .ok (.iload_n 2, 1) := by decide +kernel
theorem dL_act_612 : decode cL_act 612 = .ok (.bipush 13, 2) := by decide +kernel
theorem dL_act_614 : decode cL_act 614 = .ok (.if_icmp .ne 154, 3) := by decide +kernel
theorem dL_act_617 : decode cL_act 617 = .ok (.aload_n 0, 1) := by decide +kernel
theorem dL_act_618 : decode cL_act 618 = .ok (.iload 6, 2) := by decide +kernel
theorem dL_act_620 : decode cL_act 620 = .ok (.iconst 1, 1) := by decide +kernel
theorem dL_act_621 : decode cL_act 621 = .ok (.invokevirtual 20, 3) := by decide +kernel
theorem dL_act_624 : decode cL_act 624 = .ok (.istore 7, 2) := by decide +kernel
theorem dL_act_626 : decode cL_act 626 = .ok (.iload_n 3, 1) := by decide +kernel
theorem dL_act_627 : decode cL_act 627 = .ok (.bipush 120, 2) := by decide +kernel
theorem dL_act_629 : decode cL_act 629 = .ok (.idiv, 1) := by decide +kernel
theorem dL_act_630 : decode cL_act 630 = .ok (.iconst 2, 1) := by decide +kernel
theorem dL_act_631 : decode cL_act 631 = .ok (.irem, 1) := by decide +kernel
theorem dL_act_632 : decode cL_act 632 = .ok (.ifCond .eq 8, 3) := by decide +kernel
theorem dL_act_635 : decode cL_act 635 = .ok (.iload 7, 2) := by decide +kernel
theorem dL_act_637 : decode cL_act 637 = .ok (.ifCond .ne 17, 3) := by decide +kernel
theorem dL_act_640 : decode cL_act 640 = .ok (.iconst 1, 1) := by decide +kernel
theorem dL_act_641 : decode cL_act 641 = .ok (.iload_n 3, 1) := by decide +kernel
theorem dL_act_642 : decode cL_act 642 = .ok (.sipush 240, 3) := by decide +kernel
theorem dL_act_645 : decode cL_act 645 = .ok (.idiv, 1) := by decide +kernel
theorem dL_act_646 : decode cL_act 646 = .ok (.sipush 300, 3) := by decide +kernel
theorem dL_act_649 : decode cL_act 649 = .ok (.irem, 1) := by decide +kernel
theorem dL_act_650 : decode cL_act 650 = .ok (.iadd, 1) := by decide +kernel
theorem dL_act_651 : decode cL_act 651 = .ok (.goto 13, 3) := by decide +kernel
theorem dL_act_654 : decode cL_act 654 = .ok (.iconst 1, 1) := by decide +kernel
theorem dL_act_655 : decode cL_act 655 = .ok (.iload_n 3, 1) := by decide +kernel
theorem dL_act_656 : decode cL_act 656 = .ok (.sipush 240, 3) := by decide +kernel
theorem dL_act_659 : decode cL_act 659 = .ok (.idiv, 1) := by decide +kernel
theorem dL_act_660 : decode cL_act 660 = .ok (.iload 7, 2) := by decide +kernel
theorem dL_act_662 : decode cL_act 662 = .ok (.irem, 1) := by decide +kernel
theorem dL_act_663 : decode cL_act 663 = .ok (.iadd, 1) := by decide +kernel
theorem dL_act_664 : decode cL_act 664 = .ok (.istore 8, 2) := by decide +kernel
theorem dL_act_666 : decode cL_act 666 = .ok (.iload 8, 2) := by decide +kernel
theorem dL_act_668 : decode cL_act 668 = .ok (.sipush 9999, 3) := by decide +kernel
theorem dL_act_671 : decode cL_act 671 = .ok (.if_icmp .le 9, 3) := by decide +kernel
theorem dL_act_674 : decode cL_act 674 = .ok (.sipush 9999, 3) := by decide +kernel
theorem dL_act_677 : decode cL_act 677 = .ok (.goto 5, 3) := by decide +kernel
theorem dL_act_680 : decode cL_act 680 = .ok (.iload 8, 2) := by decide +kernel
theorem dL_act_682 : decode cL_act 682 = .ok (.istore 8, 2) := by decide +kernel
theorem dL_act_684 : decode cL_act 684 = .ok (.aload_n 0, 1) := by decide +kernel
theorem dL_act_685 : decode cL_act 685 = .ok (.bipush 12, 2) := by decide +kernel
theorem dL_act_687 : decode cL_act 687 = .ok (.invokevirtual 14, 3) := by decide +kernel
theorem dL_act_690 : decode cL_act 690 = .ok (.istore 9, 2) := by decide +kernel
theorem dL_act_692 : decode cL_act 692 = .ok (.aload_n 0, 1) := by decide +kernel
theorem dL_act_693 : decode cL_act 693 = .ok (.iload 6, 2) := by decide +kernel
theorem dL_act_695 : decode cL_act 695 = .ok (.iload 8, 2) := by decide +kernel
theorem dL_act_697 : decode cL_act 697 = .ok (.invokevirtual 48, 3) := by decide +kernel
theorem dL_act_700 : decode cL_act 700 = .ok (.istore 10, 2) := by decide +kernel
theorem dL_act_702 : decode cL_act 702 = .ok (.iload 7, 2) := by decide +kernel
theorem dL_act_704 : decode cL_act 704 = .ok (.iload 8, 2) := by decide +kernel
theorem dL_act_706 : decode cL_act 706 = .ok (.if_icmp .ge 19, 3) := by decide +kernel
theorem dL_act_709 : decode cL_act 709 = .ok (.iload 10, 2) := by decide +kernel
theorem dL_act_711 : decode cL_act 711 = .ok (.bipush (-5), 2) := by decide +kernel
theorem dL_act_713 : decode cL_act 713 = .ok (.if_icmp .ne 7, 3) := by decide +kernel
theorem dL_act_716 : decode cL_act 716 = .ok (.iconst 0, 1) := by decide +kernel
theorem dL_act_717 : decode cL_act 717 = .ok (.goto 50, 3) := by decide +kernel
theorem dL_act_720 : decode cL_act 720 = .ok (.bipush (-9), 2) := by decide +kernel
theorem dL_act_722 : decode cL_act 722 = .ok (.goto 45, 3) := by decide +kernel
theorem dL_act_725 : decode cL_act 725 = .ok (.iload 10, 2) := by decide +kernel
theorem dL_act_727 : decode cL_act 727 = .ok (.iload 7, 2) := by decide +kernel
theorem dL_act_729 : decode cL_act 729 = .ok (.iload 8, 2) := by decide +kernel
theorem dL_act_731 : decode cL_act 731 = .ok (.isub, 1) := by decide +kernel
theorem dL_act_732 : decode cL_act 732 = .ok (.if_icmp .ne 33, 3) := by decide +kernel
theorem dL_act_735 : decode cL_act 735 = .ok (.aload_n 0, 1) := by decide +kernel
theorem dL_act_736 : decode cL_act 736 = .ok (.iload 6, 2) := by decide +kernel
theorem dL_act_738 : decode cL_act 738 = .ok (.iconst 1, 1) := by decide +kernel
theorem dL_act_739 : decode cL_act 739 = .ok (.invokevirtual 20, 3) := by decide +kernel
theorem dL_act_742 : decode cL_act 742 = .ok (.iload 10, 2) := by decide +kernel
theorem dL_act_744 : decode cL_act 744 = .ok (.if_icmp .ne 21, 3) := by decide +kernel
theorem dL_act_747 : decode cL_act 747 = .ok (.aload_n 0, 1) := by decide +kernel
theorem dL_act_748 : decode cL_act 748 = .ok (.bipush 12, 2) := by decide +kernel
theorem dL_act_750 : decode cL_act 750 = .ok (.invokevirtual 14, 3) := by decide +kernel
theorem dL_act_753 : decode cL_act 753 = .ok (.iload 9, 2) := by decide +kernel
theorem dL_act_755 : decode cL_act 755 = .ok (.iload 8, 2) := by decide +kernel
theorem dL_act_757 : decode cL_act 757 = .ok (.iadd, 1) := by decide +kernel
theorem dL_act_758 : decode cL_act 758 = .ok (.if_icmp .ne 7, 3) := by decide +kernel
theorem dL_act_761 : decode cL_act 761 = .ok (.iconst 1, 1) := by decide +kernel
theorem dL_act_762 : decode cL_act 762 = .ok (.goto 5, 3) := by decide +kernel
theorem dL_act_765 : decode cL_act 765 = .ok (.bipush (-9), 2) := by decide +kernel
theorem dL_act_767 : decode cL_act 767 = .ok (.ireturn, 1) := by decide +kernel
theorem dL_act_768 : decode cL_act 768 = .ok (.iload_n 2, 1) := by decide +kernel
theorem dL_act_769 : decode cL_act 769 = .ok (.bipush 14, 2) := by decide +kernel
theorem dL_act_771 : decode cL_act 771 = .ok (.if_icmp .ne 55, 3) := by decide +kernel
theorem dL_act_774 : decode cL_act 774 = .ok (.aload_n 0, 1) := by decide +kernel
theorem dL_act_775 : decode cL_act 775 = .ok (.iload 5, 2) := by decide +kernel
theorem dL_act_777 : decode cL_act 777 = .ok (.iconst 1, 1) := by decide +kernel
theorem dL_act_778 : decode cL_act 778 = .ok (.invokevirtual 24, 3) := by decide +kernel
theorem dL_act_781 : decode cL_act 781 = .ok (.istore 7, 2) := by decide +kernel
theorem dL_act_783 : decode cL_act 783 = .ok (.iconst 1, 1) := by decide +kernel
theorem dL_act_784 : decode cL_act 784 = .ok (.iload_n 3, 1) := by decide +kernel
theorem dL_act_785 : decode cL_act 785 = .ok (.bipush 12, 2) := by decide +kernel
theorem dL_act_787 : decode cL_act 787 = .ok (.idiv, 1) := by decide +kernel
theorem dL_act_788 : decode cL_act 788 = .ok (.bipush 99, 2) := by decide +kernel
theorem dL_act_790 : decode cL_act 790 = .ok (.irem, 1) := by decide +kernel
theorem dL_act_791 : decode cL_act 791 = .ok (.iadd, 1) := by decide +kernel
theorem dL_act_792 : decode cL_act 792 = .ok (.istore 8, 2) := by decide +kernel
theorem dL_act_794 : decode cL_act 794 = .ok (.aload_n 0, 1) := by decide +kernel
theorem dL_act_795 : decode cL_act 795 = .ok (.iload 5, 2) := by decide +kernel
theorem dL_act_797 : decode cL_act 797 = .ok (.iload 8, 2) := by decide +kernel
theorem dL_act_799 : decode cL_act 799 = .ok (.invokevirtual 41, 3) := by decide +kernel
theorem dL_act_802 : decode cL_act 802 = .ok (.iload 7, 2) := by decide +kernel
theorem dL_act_804 : decode cL_act 804 = .ok (.if_icmp .ne 19, 3) := by decide +kernel
theorem dL_act_807 : decode cL_act 807 = .ok (.aload_n 0, 1) := by decide +kernel
theorem dL_act_808 : decode cL_act 808 = .ok (.iload 5, 2) := by decide +kernel
theorem dL_act_810 : decode cL_act 810 = .ok (.iconst 1, 1) := by decide +kernel
theorem dL_act_811 : decode cL_act 811 = .ok (.invokevirtual 24, 3) := by decide +kernel
theorem dL_act_814 : decode cL_act 814 = .ok (.iload 8, 2) := by decide +kernel
theorem dL_act_816 : decode cL_act 816 = .ok (.if_icmp .ne 7, 3) := by decide +kernel
theorem dL_act_819 : decode cL_act 819 = .ok (.iconst 1, 1) := by decide +kernel
theorem dL_act_820 : decode cL_act 820 = .ok (.goto 5, 3) := by decide +kernel
theorem dL_act_823 : decode cL_act 823 = .ok (.bipush (-9), 2) := by decide +kernel
theorem dL_act_825 : decode cL_act 825 = .ok (.ireturn, 1) := by decide +kernel
theorem dL_act_826 : decode cL_act 826 = .ok (.iload_n 3, 1) := by decide +kernel
theorem dL_act_827 : decode cL_act 827 = .ok (.iconst 5, 1) := by decide +kernel
theorem dL_act_828 : decode cL_act 828 = .ok (.irem, 1) := by decide +kernel
theorem dL_act_829 : decode cL_act 829 = .ok (.istore 7, 2) := by decide +kernel
theorem dL_act_831 : decode cL_act 831 = .ok (.iload_n 3, 1) := by decide +kernel
theorem dL_act_832 : decode cL_act 832 = .ok (.iconst 5, 1) := by decide +kernel
theorem dL_act_833 : decode cL_act 833 = .ok (.idiv, 1) := by decide +kernel
theorem dL_act_834 : decode cL_act 834 = .ok (.istore 8, 2) := by decide +kernel
theorem dL_act_836 : decode cL_act 836 = .ok (.iload 7, 2) := by decide +kernel
theorem dL_act_838 : decode cL_act 838 = .ok (.ifCond .ne 13, 3) := by decide +kernel
theorem dL_act_841 : decode cL_act 841 = .ok (.iconst 1, 1) := by decide +kernel
theorem dL_act_842 : decode cL_act 842 = .ok (.iload 8, 2) := by decide +kernel
theorem dL_act_844 : decode cL_act 844 = .ok (.bipush 60, 2) := by decide +kernel
theorem dL_act_846 : decode cL_act 846 = .ok (.irem, 1) := by decide +kernel
theorem dL_act_847 : decode cL_act 847 = .ok (.iadd, 1) := by decide +kernel
theorem dL_act_848 : decode cL_act 848 = .ok (.goto 54, 3) := by decide +kernel
theorem dL_act_851 : decode cL_act 851 = .ok (.iload 7, 2) := by decide +kernel
theorem dL_act_853 : decode cL_act 853 = .ok (.iconst 1, 1) := by decide +kernel
theorem dL_act_854 : decode cL_act 854 = .ok (.if_icmp .ne 11, 3) := by decide +kernel
theorem dL_act_857 : decode cL_act 857 = .ok (.iload 8, 2) := by decide +kernel
theorem dL_act_859 : decode cL_act 859 = .ok (.bipush 31, 2) := by decide +kernel
theorem dL_act_861 : decode cL_act 861 = .ok (.irem, 1) := by decide +kernel
theorem dL_act_862 : decode cL_act 862 = .ok (.goto 40, 3) := by decide +kernel
theorem dL_act_865 : decode cL_act 865 = .ok (.iload 7, 2) := by decide +kernel
theorem dL_act_867 : decode cL_act 867 = .ok (.iconst 2, 1) := by decide +kernel
theorem dL_act_868 : decode cL_act 868 = .ok (.if_icmp .ne 13, 3) := by decide +kernel
theorem dL_act_871 : decode cL_act 871 = .ok (.iconst 1, 1) := by decide +kernel
theorem dL_act_872 : decode cL_act 872 = .ok (.iload 8, 2) := by decide +kernel
theorem dL_act_874 : decode cL_act 874 = .ok (.bipush 9, 2) := by decide +kernel
theorem dL_act_876 : decode cL_act 876 = .ok (.irem, 1) := by decide +kernel
theorem dL_act_877 : decode cL_act 877 = .ok (.iadd, 1) := by decide +kernel
theorem dL_act_878 : decode cL_act 878 = .ok (.goto 24, 3) := by decide +kernel
theorem dL_act_881 : decode cL_act 881 = .ok (.iload 7, 2) := by decide +kernel
theorem dL_act_883 : decode cL_act 883 = .ok (.iconst 3, 1) := by decide +kernel
theorem dL_act_884 : decode cL_act 884 = .ok (.if_icmp .ne 13, 3) := by decide +kernel
theorem dL_act_887 : decode cL_act 887 = .ok (.iconst 1, 1) := by decide +kernel
theorem dL_act_888 : decode cL_act 888 = .ok (.iload 8, 2) := by decide +kernel
theorem dL_act_890 : decode cL_act 890 = .ok (.bipush 60, 2) := by decide +kernel
theorem dL_act_892 : decode cL_act 892 = .ok (.irem, 1) := by decide +kernel
theorem dL_act_893 : decode cL_act 893 = .ok (.iadd, 1) := by decide +kernel
theorem dL_act_894 : decode cL_act 894 = .ok (.goto 8, 3) := by decide +kernel
theorem dL_act_897 : decode cL_act 897 = .ok (.iload 8, 2) := by decide +kernel
theorem dL_act_899 : decode cL_act 899 = .ok (.bipush 10, 2) := by decide +kernel
theorem dL_act_901 : decode cL_act 901 = .ok (.irem, 1) := by decide +kernel
theorem dL_act_902 : decode cL_act 902 = .ok (.istore 9, 2) := by decide +kernel
theorem dL_act_904 : decode cL_act 904 = .ok (.aload_n 0, 1) := by decide +kernel
theorem dL_act_905 : decode cL_act 905 = .ok (.iload 7, 2) := by decide +kernel
theorem dL_act_907 : decode cL_act 907 = .ok (.invokevirtual 14, 3) := by decide +kernel
theorem dL_act_910 : decode cL_act 910 = .ok (.istore 10, 2) := by decide +kernel
theorem dL_act_912 : decode cL_act 912 = .ok (.aload_n 0, 1) := by decide +kernel
theorem dL_act_913 : decode cL_act 913 = .ok (.iload 7, 2) := by decide +kernel
theorem dL_act_915 : decode cL_act 915 = .ok (.iload 9, 2) := by decide +kernel
theorem dL_act_917 : decode cL_act 917 = .ok (.invokevirtual 35, 3) := by decide +kernel
theorem dL_act_920 : decode cL_act 920 = .ok (.iload 10, 2) := by decide +kernel
theorem dL_act_922 : decode cL_act 922 = .ok (.if_icmp .ne 18, 3) := by decide +kernel
theorem dL_act_925 : decode cL_act 925 = .ok (.aload_n 0, 1) := by decide +kernel
theorem dL_act_926 : decode cL_act 926 = .ok (.iload 7, 2) := by decide +kernel
theorem dL_act_928 : decode cL_act 928 = .ok (.invokevirtual 14, 3) := by decide +kernel
theorem dL_act_931 : decode cL_act 931 = .ok (.iload 9, 2) := by decide +kernel
theorem dL_act_933 : decode cL_act 933 = .ok (.if_icmp .ne 7, 3) := by decide +kernel
theorem dL_act_936 : decode cL_act 936 = .ok (.iconst 1, 1) := by decide +kernel
theorem dL_act_937 : decode cL_act 937 = .ok (.goto 5, 3) := by decide +kernel
theorem dL_act_940 : decode cL_act 940 = .ok (.bipush (-9), 2) := by decide +kernel
theorem dL_act_942 : decode cL_act 942 = .ok (.ireturn, 1) := by decide +kernel
end
section
set_option maxRecDepth 20000 in
theorem ggL_refuses_L_seen : GoodIn wsL_refuses wsL_seen := goodIn_r _ [4, 5, 6, 7, 8, 9, 10, 11, 12, 13, 14, 15, 16, 17, 18, 19, 20, 21, 22, 23, 24, 25, 26, 27, 28, 29, 30, 31, 32, 33, 34, 35, 36, 37, 38, 39, 40, 41, 42, 43, 44, 45, 46, 47, 48, 49, 50, 51, 52, 53, 54, 55, 56, 57, 58, 59, 60, 61, 62, 63, 64, 65, 66, 67, 68, 69, 70, 71, 72, 73, 74, 75, 76, 77, 78, 79, 80, 81, 82, 83, 84, 85, 86, 87, 88, 89, 90, 91, 92, 93, 94, 95, 96, 97, 98, 99, 100, 101, 307, 308, 309, 310, 311, 312, 313, 314, 315, 316, 317, 318, 319, 320, 321, 322, 323, 324, 325, 326, 327, 328, 329, 330, 331, 332] (by decide +kernel) (by decide +kernel)
set_option maxRecDepth 20000 in
theorem gL_refuses_L_seen : GoodIn wsL_refuses (va_wsS RL 83 yL_seen wsL_seen) := goodIn_app (goodIn_of _ (by decide +kernel)) ggL_refuses_L_seen
set_option maxRecDepth 20000 in
theorem ggL_refuses_X4_count : GoodIn wsL_refuses wsX4_count := goodIn_r _ [11, 12, 13, 14, 15, 16, 17, 18, 19, 20, 21, 22, 23, 24, 25, 26, 27, 28, 10, 29, 30, 31, 32, 33, 34, 35, 36, 37, 38, 39, 40, 41, 42, 43, 44, 45, 46, 47, 48, 49, 50, 51, 52, 53, 54, 55, 56, 57, 58, 59, 60, 61, 62, 307, 308, 309, 310, 311, 312, 313, 314, 315, 316, 317, 318, 319, 320, 321, 322, 323, 324, 325, 326, 327, 328, 329, 330, 331, 332] (by decide +kernel) (by decide +kernel)
set_option maxRecDepth 20000 in
theorem gL_refuses_X4_count : GoodIn wsL_refuses (wsV RL 14 RX4 yX4_count wsX4_count) := goodIn_app (goodIn_of _ (by decide +kernel)) ggL_refuses_X4_count
set_option maxRecDepth 20000 in
theorem ggL_refuses_L_refusesAny : GoodIn wsL_refuses wsL_refusesAny := goodIn_sub (ml_td 1 _ (ml_one rfl (List.mem_of_getElem? (i := 104) rfl)) (ml_pos _ [7, 8, 9, 10, 11, 12, 13, 14, 15, 16, 17, 18, 19, 20, 21, 22, 23, 24, 25, 26, 27, 28, 29, 30, 31, 32, 33, 34, 35, 36, 37, 38, 39, 40, 41, 42, 43, 44, 45, 46, 47, 48, 49, 50, 51, 52, 53, 54, 55, 56, 57, 58, 59, 60, 61, 62, 105, 106, 107, 108, 109, 110, 111, 112, 113, 114, 115, 116, 117, 118, 119, 120, 121, 122, 123, 124, 125, 126, 127, 128, 129, 130, 131, 132, 133, 134, 135, 136, 137, 138, 139, 140, 141, 142, 143, 144, 145, 146, 147, 148, 149, 150, 151, 152, 153, 154, 155, 156, 86, 88, 89, 90, 91, 157, 158, 159, 160, 161, 162, 163, 164, 69, 70, 71, 165, 166, 167, 168, 169, 170, 171, 172, 76, 77, 78, 79, 173, 174, 175, 176, 177, 178, 179, 180, 181, 182, 183, 184, 185, 186, 187, 188, 189, 190, 191, 192, 193, 194, 195, 196, 197, 198, 199, 200, 201, 63, 64, 65, 66, 67, 68, 72, 73, 74, 75, 80, 81, 82, 83, 84, 85, 87, 92, 93, 94, 95, 96, 97, 98, 99, 100, 101, 202, 203, 204, 205, 206, 207, 208, 209, 210, 211, 212, 213, 214, 215, 216, 217, 218, 219, 220, 221, 222, 223, 224, 225, 226, 227, 228, 229, 230, 231, 232, 233, 234, 235, 236, 237, 238, 239, 240, 241, 242, 243, 244, 245, 246, 247, 248, 249, 250, 251, 252, 253, 254, 255, 256, 257, 258, 259, 260, 261, 262, 263, 264, 265, 266, 267, 268, 269, 270, 271, 272, 273, 274, 275, 276, 277, 278, 279, 280, 281, 282, 283, 284, 285, 286, 287, 288, 289, 290, 291, 292, 293, 294, 295, 296, 297, 298, 299, 300, 301, 302, 303, 304, 305, 306, 307, 308, 309, 310, 311, 312, 313, 314, 315, 316, 317, 318, 319, 320, 321, 322, 323, 324, 325, 326, 327, 328, 329, 330, 331, 332, 333, 334, 335, 336, 337] (by decide +kernel))) (by decide +kernel)
set_option maxRecDepth 20000 in
theorem gL_refuses_L_refusesAny : GoodIn wsL_refuses (va_wsS RL 87 yL_refusesAny wsL_refusesAny) := goodIn_app (goodIn_of _ (by decide +kernel)) ggL_refuses_L_refusesAny
theorem dL_refuses_0 : decode cL_refuses 0 = .ok (.aload_n 0, 1) := by decide +kernel
theorem dL_refuses_1 : decode cL_refuses 1 = .ok (.invokestatic 83, 3) := by decide +kernel
theorem dL_refuses_4 : decode cL_refuses 4 = .ok (.lstore_n 2, 1) := by decide +kernel
theorem dL_refuses_5 : decode cL_refuses 5 = .ok (.aload_n 0, 1) := by decide +kernel
theorem dL_refuses_6 : decode cL_refuses 6 = .ok (.bipush 19, 2) := by decide +kernel
theorem dL_refuses_8 : decode cL_refuses 8 = .ok (.invokevirtual 14, 3) := by decide +kernel
theorem dL_refuses_11 : decode cL_refuses 11 = .ok (.istore 4, 2) := by decide +kernel
theorem dL_refuses_13 : decode cL_refuses 13 = .ok (.aload_n 0, 1) := by decide +kernel
theorem dL_refuses_14 : decode cL_refuses 14 = .ok (.iload_n 1, 1) := by decide +kernel
theorem dL_refuses_15 : decode cL_refuses 15 = .ok (.invokestatic 87, 3) := by decide +kernel
theorem dL_refuses_18 : decode cL_refuses 18 = .ok (.ifCond .eq 27, 3) := by decide +kernel
theorem dL_refuses_21 : decode cL_refuses 21 = .ok (.aload_n 0, 1) := by decide +kernel
theorem dL_refuses_22 : decode cL_refuses 22 = .ok (.invokestatic 83, 3) := by decide +kernel
theorem dL_refuses_25 : decode cL_refuses 25 = .ok (.lload_n 2, 1) := by decide +kernel
theorem dL_refuses_26 : decode cL_refuses 26 = .ok (.lcmp, 1) := by decide +kernel
theorem dL_refuses_27 : decode cL_refuses 27 = .ok (.ifCond .ne 18, 3) := by decide +kernel
theorem dL_refuses_30 : decode cL_refuses 30 = .ok (.aload_n 0, 1) := by decide +kernel
theorem dL_refuses_31 : decode cL_refuses 31 = .ok (.bipush 19, 2) := by decide +kernel
theorem dL_refuses_33 : decode cL_refuses 33 = .ok (.invokevirtual 14, 3) := by decide +kernel
theorem dL_refuses_36 : decode cL_refuses 36 = .ok (.iload 4, 2) := by decide +kernel
theorem dL_refuses_38 : decode cL_refuses 38 = .ok (.if_icmp .ne 7, 3) := by decide +kernel
theorem dL_refuses_41 : decode cL_refuses 41 = .ok (.iconst 1, 1) := by decide +kernel
theorem dL_refuses_42 : decode cL_refuses 42 = .ok (.goto 4, 3) := by decide +kernel
theorem dL_refuses_45 : decode cL_refuses 45 = .ok (.iconst 0, 1) := by decide +kernel
theorem dL_refuses_46 : decode cL_refuses 46 = .ok (.ireturn, 1) := by decide +kernel
set_option maxRecDepth 20000 in
theorem ggL_law_X4_init : GoodIn wsL_law wsX4_init := goodIn_r _ [5, 6, 7, 8, 9, 10, 11, 12, 13, 14, 15, 16, 17, 18, 19, 20, 21, 22, 23, 24, 25, 26, 27, 28, 29, 30, 31, 32, 33, 34, 35, 36, 37, 38, 39, 40, 41, 42, 43, 44, 45, 46, 47, 48, 2, 49, 50, 51, 52, 53, 54, 55, 56, 57, 58, 59, 60, 61, 62, 63, 64, 65, 66, 67, 68, 69, 70, 71, 72, 73, 74, 75, 76, 77, 78, 79, 80, 385, 386, 387, 388, 389, 390, 391, 392, 393, 394, 395, 396, 397, 398, 399, 379, 380, 381, 382, 383, 384, 400, 401, 402, 403, 404, 405, 406, 407, 408, 409] (by decide +kernel) (by decide +kernel)
set_option maxRecDepth 20000 in
theorem gL_law_X4_init : GoodIn wsL_law (wsX4_init) := ggL_law_X4_init
set_option maxRecDepth 20000 in
theorem ggL_law_X4_undo : GoodIn wsL_law wsX4_undo := goodIn_r _ [84, 16, 85, 12, 86, 87, 88, 15, 89, 64, 65, 63, 90, 91, 92, 11, 93, 33, 34, 35, 36, 37, 38, 39, 40, 41, 42, 43, 44, 45, 46, 47, 48, 2, 49, 50, 51, 52, 53, 54, 55, 56, 57, 379, 380, 381, 382, 383, 384, 400, 401, 402, 385, 386, 387, 388, 389, 390, 391, 392, 393, 394, 395, 396, 397, 398, 399] (by decide +kernel) (by decide +kernel)
set_option maxRecDepth 20000 in
theorem gL_law_X4_undo : GoodIn wsL_law (wsV RL 95 RX4 yX4_undo wsX4_undo) := goodIn_app (goodIn_of _ (by decide +kernel)) ggL_law_X4_undo
set_option maxRecDepth 20000 in
theorem ggL_law_X4_restore : GoodIn wsL_law wsX4_restore := goodIn_r _ [97, 19, 16, 12, 17, 98, 99, 100, 2, 101, 102, 103, 104, 15, 105, 63, 64, 65, 106, 51, 52, 53, 90, 91, 92, 11, 93, 33, 34, 35, 36, 37, 38, 39, 40, 41, 42, 43, 44, 45, 46, 47, 48, 49, 50, 54, 55, 56, 57, 107, 379, 380, 381, 382, 383, 384, 385, 386, 387, 388, 389, 390, 391, 392, 393, 394, 395, 396, 397, 398, 399, 400, 401, 402] (by decide +kernel) (by decide +kernel)
set_option maxRecDepth 20000 in
theorem gL_law_X4_restore : GoodIn wsL_law (wsV RL 70 RX4 yX4_restore wsX4_restore) := goodIn_app (goodIn_of _ (by decide +kernel)) ggL_law_X4_restore
set_option maxRecDepth 20000 in
theorem ggL_law_X4_count : GoodIn wsL_law wsX4_count := goodIn_r _ [111, 112, 12, 113, 114, 115, 116, 117, 118, 98, 119, 120, 23, 121, 16, 85, 99, 100, 2, 101, 122, 123, 124, 125, 126, 127, 11, 128, 34, 129, 130, 131, 132, 133, 134, 135, 136, 33, 137, 138, 52, 139, 140, 141, 142, 143, 38, 144, 145, 146, 147, 148, 149, 379, 380, 381, 382, 383, 384, 385, 386, 387, 388, 389, 390, 391, 392, 393, 394, 395, 396, 397, 398, 399, 403, 404, 400, 401, 402] (by decide +kernel) (by decide +kernel)
set_option maxRecDepth 20000 in
theorem gL_law_X4_count : GoodIn wsL_law (wsV RL 14 RX4 yX4_count wsX4_count) := goodIn_app (goodIn_of _ (by decide +kernel)) ggL_law_X4_count
set_option maxRecDepth 20000 in
theorem ggL_law_L_refuses : GoodIn wsL_law wsL_refuses := goodIn_sub (ml_td 104 _ (ml_pos _ [153, 154, 155, 152, 156, 157, 158, 108, 109, 110, 2, 111, 112, 12, 113, 114, 115, 116, 117, 118, 98, 119, 120, 23, 121, 16, 85, 99, 100, 101, 122, 123, 124, 125, 126, 127, 11, 128, 34, 129, 130, 131, 132, 133, 134, 135, 136, 33, 137, 138, 52, 139, 140, 141, 142, 143, 38, 144, 145, 146, 147, 148, 149, 159, 160, 161, 162, 163, 164, 165, 166, 167, 168, 169, 170, 171, 172, 173, 174, 175, 176, 177, 178, 179, 180, 181, 182, 183, 184, 185, 186, 187, 188, 189, 190, 191, 192, 193, 194, 195, 196, 197, 198, 199] (by decide +kernel)) (ml_td 1 _ (ml_one rfl (List.mem_of_getElem? (i := 200) rfl)) (ml_pos _ [201, 202, 203, 204, 205, 206, 102, 103, 104, 15, 105, 63, 64, 65, 106, 51, 53, 90, 91, 92, 93, 35, 36, 37, 39, 40, 41, 42, 43, 44, 45, 46, 47, 48, 49, 50, 54, 55, 56, 57, 207, 208, 209, 210, 211, 212, 213, 214, 215, 216, 217, 218, 219, 220, 221, 222, 223, 224, 225, 226, 227, 228, 229, 230, 231, 232, 233, 234, 235, 236, 237, 238, 239, 240, 241, 242, 243, 244, 245, 246, 247, 248, 249, 250, 251, 252, 253, 254, 255, 256, 257, 258, 259, 260, 261, 262, 263, 264, 265, 266, 267, 268, 269, 270, 271, 272, 273, 274, 275, 276, 277, 278, 279, 280, 281, 282, 283, 284, 285, 286, 287, 288, 289, 17, 19, 107, 94, 95, 96, 97, 290, 291, 292, 293, 294, 295, 296, 297, 27, 298, 299, 300, 301, 302, 303, 304, 305, 26, 306, 76, 80, 307, 308, 309, 310, 79, 311, 312, 313, 314, 77, 315, 316, 317, 318, 319, 320, 321, 322, 323, 324, 325, 78, 326, 327, 328, 329, 330, 331, 332, 333, 334, 335, 336, 337, 338, 339, 340, 341, 342, 343, 344, 345, 346, 347, 348, 349, 350, 351, 352, 353, 354, 379, 380, 381, 382, 383, 384, 385, 386, 387, 388, 389, 390, 391, 392, 393, 394, 395, 396, 397, 398, 399, 403, 404, 400, 401, 402, 405, 406, 407, 408, 409] (by decide +kernel)))) (by decide +kernel)
set_option maxRecDepth 20000 in
theorem gL_law_L_refuses : GoodIn wsL_law (va_wsS RL 98 yL_refuses wsL_refuses) := goodIn_app (goodIn_of _ (by decide +kernel)) ggL_law_L_refuses
set_option maxRecDepth 20000 in
theorem ggL_law_X4_save : GoodIn wsL_law wsX4_save := goodIn_r _ [289, 17, 12, 19, 98, 99, 100, 2, 101, 107, 91, 92, 11, 93, 33, 34, 35, 36, 37, 38, 39, 40, 41, 42, 43, 44, 45, 46, 47, 48, 49, 50, 51, 52, 53, 54, 55, 56, 57, 379, 380, 381, 382, 383, 384, 385, 386, 387, 388, 389, 390, 391, 392, 393, 394, 395, 396, 397, 398, 399] (by decide +kernel) (by decide +kernel)
set_option maxRecDepth 20000 in
theorem gL_law_X4_save : GoodIn wsL_law (wsV RL 67 RX4 yX4_save wsX4_save) := goodIn_app (goodIn_of _ (by decide +kernel)) ggL_law_X4_save
set_option maxRecDepth 20000 in
theorem ggL_law_L_cell : GoodIn wsL_law wsL_cell := goodIn_r _ [357, 358, 359, 360] (by decide +kernel) (by decide +kernel)
set_option maxRecDepth 20000 in
theorem gL_law_L_cell : GoodIn wsL_law (va_wsS RL 101 yL_cell wsL_cell) := goodIn_app (goodIn_of _ (by decide +kernel)) ggL_law_L_cell
set_option maxRecDepth 20000 in
theorem ggL_law_L_seen : GoodIn wsL_law wsL_seen := goodIn_r _ [156, 157, 158, 108, 109, 110, 2, 111, 112, 12, 113, 114, 115, 116, 117, 118, 98, 119, 120, 23, 121, 16, 85, 99, 100, 101, 122, 123, 124, 125, 126, 127, 11, 128, 34, 129, 130, 131, 132, 133, 134, 135, 136, 33, 137, 138, 52, 139, 140, 141, 142, 143, 38, 144, 145, 146, 147, 148, 149, 159, 160, 161, 162, 163, 164, 165, 166, 167, 168, 169, 170, 171, 172, 173, 174, 175, 176, 177, 178, 179, 180, 181, 182, 183, 184, 185, 186, 187, 188, 189, 190, 191, 192, 193, 194, 195, 196, 197, 379, 380, 381, 382, 383, 384, 385, 386, 387, 388, 389, 390, 391, 392, 393, 394, 395, 396, 397, 398, 399, 403, 404, 400, 401, 402] (by decide +kernel) (by decide +kernel)
set_option maxRecDepth 20000 in
theorem gL_law_L_seen : GoodIn wsL_law (va_wsS RL 83 yL_seen wsL_seen) := goodIn_app (goodIn_of _ (by decide +kernel)) ggL_law_L_seen
set_option maxRecDepth 20000 in
theorem ggL_law_L_act : GoodIn wsL_law wsL_act := goodIn_sub (ml_td 1 _ (ml_one rfl (List.mem_of_getElem? (i := 363) rfl)) (ml_pos _ [108, 109, 110, 2, 111, 112, 12, 113, 114, 115, 116, 117, 118, 98, 119, 120, 23, 121, 16, 85, 99, 100, 101, 122, 123, 124, 125, 126, 127, 11, 128, 34, 129, 130, 131, 132, 133, 134, 135, 136, 33, 137, 138, 52, 139, 140, 141, 142, 143, 38, 144, 145, 146, 147, 148, 149, 207, 208, 209, 210, 102, 103, 104, 15, 105, 63, 64, 65, 106, 51, 53, 90, 91, 92, 93, 35, 36, 37, 39, 40, 41, 42, 43, 44, 45, 46, 47, 48, 49, 50, 54, 55, 56, 57, 211, 212, 213, 214, 177, 178, 179, 180, 181, 182, 183, 184, 185, 186, 187, 188, 189, 190, 191, 192, 172, 173, 174, 175, 193, 194, 195, 196, 165, 166, 167, 197, 264, 265, 266, 267, 223, 224, 225, 226, 268, 232, 233, 234, 235, 236, 237, 238, 239, 240, 241, 242, 269, 270, 271, 272, 273, 219, 220, 221, 222, 227, 228, 229, 230, 231, 243, 244, 245, 246, 247, 248, 249, 250, 251, 252, 253, 254, 255, 256, 257, 258, 259, 364, 365, 366, 367, 368, 369, 370, 371, 372, 159, 160, 161, 162, 163, 164, 168, 169, 170, 171, 176, 260, 261, 262, 263, 215, 216, 217, 218, 201, 202, 203, 204, 205, 206, 379, 380, 381, 382, 383, 384, 385, 386, 387, 388, 389, 390, 391, 392, 393, 394, 395, 396, 397, 398, 399, 403, 404, 400, 401, 402] (by decide +kernel))) (by decide +kernel)
set_option maxRecDepth 20000 in
theorem gL_law_L_act : GoodIn wsL_law (va_wsS RL 105 yL_act wsL_act) := goodIn_app (goodIn_of _ (by decide +kernel)) ggL_law_L_act
set_option maxRecDepth 20000 in
theorem ggL_law_L_arePupils : GoodIn wsL_law wsL_arePupils := goodIn_sub (ml_td 1 _ (ml_one rfl (List.mem_of_getElem? (i := 375) rfl)) (ml_pos _ [159, 160, 161, 2, 162, 12, 119, 117, 115, 163, 164, 120, 118, 165, 166, 167, 99, 100, 101, 168, 169, 170, 11, 171, 172, 173, 174, 175, 38, 176, 144, 145, 108, 109, 110, 111, 112, 113, 114, 116, 98, 23, 121, 16, 85, 122, 123, 124, 125, 126, 127, 128, 34, 129, 130, 131, 132, 133, 134, 135, 136, 33, 137, 138, 52, 139, 140, 141, 142, 143, 146, 147, 148, 149, 177, 178, 179, 180, 181, 182, 183, 184, 185, 186, 187, 188, 189, 190, 191, 192, 193, 194, 195, 196, 197, 376, 377, 152, 378, 379, 380, 381, 382, 383, 384, 385, 386, 387, 388, 389, 390, 391, 392, 393, 394, 395, 396, 397, 398, 399, 403, 404, 400, 401, 402] (by decide +kernel))) (by decide +kernel)
set_option maxRecDepth 20000 in
theorem gL_law_L_arePupils : GoodIn wsL_law (va_wsS RL 109 yL_arePupils wsL_arePupils) := goodIn_app (goodIn_of _ (by decide +kernel)) ggL_law_L_arePupils
theorem dL_law_0 : decode cL_law 0 = .ok (.new 15, 3) := by decide +kernel
theorem dL_law_3 : decode cL_law 3 = .ok (.dup, 1) := by decide +kernel
theorem dL_law_4 : decode cL_law 4 = .ok (.invokespecial 94, 3) := by decide +kernel
theorem dL_law_7 : decode cL_law 7 = .ok (.astore_n 1, 1) := by decide +kernel
theorem dL_law_8 : decode cL_law 8 = .ok (.aload_n 1, 1) := by decide +kernel
theorem dL_law_9 : decode cL_law 9 = .ok (.invokevirtual 95, 3) := by decide +kernel
theorem dL_law_12 : decode cL_law 12 = .ok (.bipush (-5), 2) := by decide +kernel
theorem dL_law_14 : decode cL_law 14 = .ok (.if_icmp .ne 109, 3) := by decide +kernel
theorem dL_law_17 : decode cL_law 17 = .ok (.aload_n 1, 1) := by decide +kernel
theorem dL_law_18 : decode cL_law 18 = .ok (.iconst 0, 1) := by decide +kernel
theorem dL_law_19 : decode cL_law 19 = .ok (.invokevirtual 70, 3) := by decide +kernel
theorem dL_law_22 : decode cL_law 22 = .ok (.bipush (-5), 2) := by decide +kernel
theorem dL_law_24 : decode cL_law 24 = .ok (.if_icmp .ne 99, 3) := by decide +kernel
theorem dL_law_27 : decode cL_law 27 = .ok (.aload_n 1, 1) := by decide +kernel
theorem dL_law_28 : decode cL_law 28 = .ok (.iconst 1, 1) := by decide +kernel
theorem dL_law_29 : decode cL_law 29 = .ok (.invokevirtual 70, 3) := by decide +kernel
theorem dL_law_32 : decode cL_law 32 = .ok (.bipush (-5), 2) := by decide +kernel
theorem dL_law_34 : decode cL_law 34 = .ok (.if_icmp .ne 89, 3) := by decide +kernel
theorem dL_law_37 : decode cL_law 37 = .ok (.aload_n 1, 1) := by decide +kernel
theorem dL_law_38 : decode cL_law 38 = .ok (.iconst 0, 1) := by decide +kernel
theorem dL_law_39 : decode cL_law 39 = .ok (.invokevirtual 14, 3) := by decide +kernel
theorem dL_law_42 : decode cL_law 42 = .ok (.bipush 40, 2) := by decide +kernel
theorem dL_law_44 : decode cL_law 44 = .ok (.if_icmp .ne 79, 3) := by decide +kernel
theorem dL_law_47 : decode cL_law 47 = .ok (.aload_n 1, 1) := by decide +kernel
theorem dL_law_48 : decode cL_law 48 = .ok (.iconst 1, 1) := by decide +kernel
theorem dL_law_49 : decode cL_law 49 = .ok (.invokevirtual 14, 3) := by decide +kernel
theorem dL_law_52 : decode cL_law 52 = .ok (.bipush 25, 2) := by decide +kernel
theorem dL_law_54 : decode cL_law 54 = .ok (.if_icmp .ne 69, 3) := by decide +kernel
theorem dL_law_57 : decode cL_law 57 = .ok (.aload_n 1, 1) := by decide +kernel
theorem dL_law_58 : decode cL_law 58 = .ok (.iconst 2, 1) := by decide +kernel
theorem dL_law_59 : decode cL_law 59 = .ok (.invokevirtual 14, 3) := by decide +kernel
theorem dL_law_62 : decode cL_law 62 = .ok (.iconst 3, 1) := by decide +kernel
theorem dL_law_63 : decode cL_law 63 = .ok (.if_icmp .ne 60, 3) := by decide +kernel
theorem dL_law_66 : decode cL_law 66 = .ok (.aload_n 1, 1) := by decide +kernel
theorem dL_law_67 : decode cL_law 67 = .ok (.iconst 3, 1) := by decide +kernel
theorem dL_law_68 : decode cL_law 68 = .ok (.invokevirtual 14, 3) := by decide +kernel
theorem dL_law_71 : decode cL_law 71 = .ok (.iconst 5, 1) := by decide +kernel
theorem dL_law_72 : decode cL_law 72 = .ok (.if_icmp .ne 51, 3) := by decide +kernel
theorem dL_law_75 : decode cL_law 75 = .ok (.aload_n 1, 1) := by decide +kernel
theorem dL_law_76 : decode cL_law 76 = .ok (.iconst 4, 1) := by decide +kernel
theorem dL_law_77 : decode cL_law 77 = .ok (.invokevirtual 14, 3) := by decide +kernel
theorem dL_law_80 : decode cL_law 80 = .ok (.iconst 4, 1) := by decide +kernel
theorem dL_law_81 : decode cL_law 81 = .ok (.if_icmp .ne 42, 3) := by decide +kernel
theorem dL_law_84 : decode cL_law 84 = .ok (.aload_n 1, 1) := by decide +kernel
theorem dL_law_85 : decode cL_law 85 = .ok (.bipush 15, 2) := by decide +kernel
theorem dL_law_87 : decode cL_law 87 = .ok (.invokevirtual 14, 3) := by decide +kernel
theorem dL_law_90 : decode cL_law 90 = .ok (.bipush 50, 2) := by decide +kernel
theorem dL_law_92 : decode cL_law 92 = .ok (.if_icmp .ne 31, 3) := by decide +kernel
theorem dL_law_95 : decode cL_law 95 = .ok (.aload_n 1, 1) := by decide +kernel
theorem dL_law_96 : decode cL_law 96 = .ok (.iconst 0, 1) := by decide +kernel
theorem dL_law_97 : decode cL_law 97 = .ok (.invokestatic 98, 3) := by decide +kernel
theorem dL_law_100 : decode cL_law 100 = .ok (.ifCond .eq 23, 3) := by decide +kernel
theorem dL_law_103 : decode cL_law 103 = .ok (.aload_n 1, 1) := by decide +kernel
theorem dL_law_104 : decode cL_law 104 = .ok (.iconst 1, 1) := by decide +kernel
theorem dL_law_105 : decode cL_law 105 = .ok (.invokestatic 98, 3) := by decide +kernel
theorem dL_law_108 : decode cL_law 108 = .ok (.ifCond .eq 15, 3) := by decide +kernel
theorem dL_law_111 : decode cL_law 111 = .ok (.aload_n 1, 1) := by decide +kernel
theorem dL_law_112 : decode cL_law 112 = .ok (.iconst 1, 1) := by decide +kernel
theorem dL_law_113 : decode cL_law 113 = .ok (.invokevirtual 67, 3) := by decide +kernel
theorem dL_law_116 : decode cL_law 116 = .ok (.ifCond .ne 7, 3) := by decide +kernel
theorem dL_law_119 : decode cL_law 119 = .ok (.iconst 1, 1) := by decide +kernel
theorem dL_law_120 : decode cL_law 120 = .ok (.goto 4, 3) := by decide +kernel
theorem dL_law_123 : decode cL_law 123 = .ok (.iconst 0, 1) := by decide +kernel
theorem dL_law_124 : decode cL_law 124 = .ok (.istore_n 2, 1) := by decide +kernel
theorem dL_law_125 : decode cL_law 125 = .ok (.iconst 0, 1) := by decide +kernel
theorem dL_law_126 : decode cL_law 126 = .ok (.istore_n 3, 1) := by decide +kernel
theorem dL_law_127 : decode cL_law 127 = .ok (.iload_n 3, 1) := by decide +kernel
theorem dL_law_128 : decode cL_law 128 = .ok (.bipush 70, 2) := by decide +kernel
theorem dL_law_130 : decode cL_law 130 = .ok (.if_icmp .ge 235, 3) := by decide +kernel
theorem dL_law_133 : decode cL_law 133 = .ok (.iload_n 2, 1) := by decide +kernel
theorem dL_law_134 : decode cL_law 134 = .ok (.ifCond .eq 231, 3) := by decide +kernel
theorem dL_law_137 : decode cL_law 137 = .ok (.aload_n 0, 1) := by decide +kernel
theorem dL_law_138 : decode cL_law 138 = .ok (.iload_n 3, 1) := by decide +kernel
theorem dL_law_139 : decode cL_law 139 = .ok (.invokestatic 101, 3) := by decide +kernel
theorem dL_law_142 : decode cL_law 142 = .ok (.istore 4, 2) := by decide +kernel
theorem dL_law_144 : decode cL_law 144 = .ok (.aload_n 1, 1) := by decide +kernel
theorem dL_law_145 : decode cL_law 145 = .ok (.invokestatic 83, 3) := by decide +kernel
theorem dL_law_148 : decode cL_law 148 = .ok (.lstore 5, 2) := by decide +kernel
theorem dL_law_150 : decode cL_law 150 = .ok (.aload_n 1, 1) := by decide +kernel
theorem dL_law_151 : decode cL_law 151 = .ok (.bipush 19, 2) := by decide +kernel
theorem dL_law_153 : decode cL_law 153 = .ok (.invokevirtual 14, 3) := by decide +kernel
theorem dL_law_156 : decode cL_law 156 = .ok (.istore 7, 2) := by decide +kernel
theorem dL_law_158 : decode cL_law 158 = .ok (.aload_n 1, 1) := by decide +kernel
theorem dL_law_159 : decode cL_law 159 = .ok (.iload 4, 2) := by decide +kernel
theorem dL_law_161 : decode cL_law 161 = .ok (.invokestatic 105, 3) := by decide +kernel
theorem dL_law_164 : decode cL_law 164 = .ok (.istore 8, 2) := by decide +kernel
theorem dL_law_166 : decode cL_law 166 = .ok (.aload_n 1, 1) := by decide +kernel
theorem dL_law_167 : decode cL_law 167 = .ok (.bipush 19, 2) := by decide +kernel
theorem dL_law_169 : decode cL_law 169 = .ok (.invokevirtual 14, 3) := by decide +kernel
theorem dL_law_172 : decode cL_law 172 = .ok (.istore 9, 2) := by decide +kernel
theorem dL_law_174 : decode cL_law 174 = .ok (.iload 8, 2) := by decide +kernel
theorem dL_law_176 : decode cL_law 176 = .ok (.ifCond .lt 87, 3) := by decide +kernel
theorem dL_law_179 : decode cL_law 179 = .ok (.iload 8, 2) := by decide +kernel
theorem dL_law_181 : decode cL_law 181 = .ok (.ifCond .ne 23, 3) := by decide +kernel
theorem dL_law_184 : decode cL_law 184 = .ok (.iload 9, 2) := by decide +kernel
theorem dL_law_186 : decode cL_law 186 = .ok (.iload 7, 2) := by decide +kernel
theorem dL_law_188 : decode cL_law 188 = .ok (.if_icmp .ne 75, 3) := by decide +kernel
theorem dL_law_191 : decode cL_law 191 = .ok (.aload_n 1, 1) := by decide +kernel
theorem dL_law_192 : decode cL_law 192 = .ok (.invokestatic 83, 3) := by decide +kernel
theorem dL_law_195 : decode cL_law 195 = .ok (.lload 5, 2) := by decide +kernel
theorem dL_law_197 : decode cL_law 197 = .ok (.lcmp, 1) := by decide +kernel
theorem dL_law_198 : decode cL_law 198 = .ok (.ifCond .ne 65, 3) := by decide +kernel
theorem dL_law_201 : decode cL_law 201 = .ok (.goto 24, 3) := by decide +kernel
theorem dL_law_204 : decode cL_law 204 = .ok (.iload 9, 2) := by decide +kernel
theorem dL_law_206 : decode cL_law 206 = .ok (.iload 7, 2) := by decide +kernel
theorem dL_law_208 : decode cL_law 208 = .ok (.bipush 6, 2) := by decide +kernel
theorem dL_law_210 : decode cL_law 210 = .ok (.if_icmp .ge 10, 3) := by decide +kernel
theorem dL_law_213 : decode cL_law 213 = .ok (.iload 7, 2) := by decide +kernel
theorem dL_law_215 : decode cL_law 215 = .ok (.iconst 1, 1) := by decide +kernel
theorem dL_law_216 : decode cL_law 216 = .ok (.iadd, 1) := by decide +kernel
theorem dL_law_217 : decode cL_law 217 = .ok (.goto 5, 3) := by decide +kernel
theorem dL_law_220 : decode cL_law 220 = .ok (.bipush 6, 2) := by decide +kernel
theorem dL_law_222 : decode cL_law 222 = .ok (.if_icmp .ne 41, 3) := by decide +kernel
theorem dL_law_225 : decode cL_law 225 = .ok (.iload_n 3, 1) := by decide +kernel
theorem dL_law_226 : decode cL_law 226 = .ok (.iconst 3, 1) := by decide +kernel
theorem dL_law_227 : decode cL_law 227 = .ok (.irem, 1) := by decide +kernel
theorem dL_law_228 : decode cL_law 228 = .ok (.ifCond .eq 10, 3) := by decide +kernel
theorem dL_law_231 : decode cL_law 231 = .ok (.aload_n 1, 1) := by decide +kernel
theorem dL_law_232 : decode cL_law 232 = .ok (.invokestatic 109, 3) := by decide +kernel
theorem dL_law_235 : decode cL_law 235 = .ok (.ifCond .eq 28, 3) := by decide +kernel
theorem dL_law_238 : decode cL_law 238 = .ok (.iload_n 3, 1) := by decide +kernel
theorem dL_law_239 : decode cL_law 239 = .ok (.bipush 7, 2) := by decide +kernel
theorem dL_law_241 : decode cL_law 241 = .ok (.irem, 1) := by decide +kernel
theorem dL_law_242 : decode cL_law 242 = .ok (.bipush 6, 2) := by decide +kernel
theorem dL_law_244 : decode cL_law 244 = .ok (.if_icmp .ne 15, 3) := by decide +kernel
theorem dL_law_247 : decode cL_law 247 = .ok (.aload_n 1, 1) := by decide +kernel
theorem dL_law_248 : decode cL_law 248 = .ok (.iload 4, 2) := by decide +kernel
theorem dL_law_250 : decode cL_law 250 = .ok (.bipush 7, 2) := by decide +kernel
theorem dL_law_252 : decode cL_law 252 = .ok (.idiv, 1) := by decide +kernel
theorem dL_law_253 : decode cL_law 253 = .ok (.invokestatic 98, 3) := by decide +kernel
theorem dL_law_256 : decode cL_law 256 = .ok (.ifCond .eq 7, 3) := by decide +kernel
theorem dL_law_259 : decode cL_law 259 = .ok (.iconst 1, 1) := by decide +kernel
theorem dL_law_260 : decode cL_law 260 = .ok (.goto 4, 3) := by decide +kernel
theorem dL_law_263 : decode cL_law 263 = .ok (.iconst 0, 1) := by decide +kernel
theorem dL_law_264 : decode cL_law 264 = .ok (.istore_n 2, 1) := by decide +kernel
theorem dL_law_265 : decode cL_law 265 = .ok (.iload_n 2, 1) := by decide +kernel
theorem dL_law_266 : decode cL_law 266 = .ok (.ifCond .eq 93, 3) := by decide +kernel
theorem dL_law_269 : decode cL_law 269 = .ok (.iload 8, 2) := by decide +kernel
theorem dL_law_271 : decode cL_law 271 = .ok (.iconst 1, 1) := by decide +kernel
theorem dL_law_272 : decode cL_law 272 = .ok (.if_icmp .ne 87, 3) := by decide +kernel
theorem dL_law_275 : decode cL_law 275 = .ok (.iload 4, 2) := by decide +kernel
theorem dL_law_277 : decode cL_law 277 = .ok (.bipush 17, 2) := by decide +kernel
theorem dL_law_279 : decode cL_law 279 = .ok (.idiv, 1) := by decide +kernel
theorem dL_law_280 : decode cL_law 280 = .ok (.iconst 4, 1) := by decide +kernel
theorem dL_law_281 : decode cL_law 281 = .ok (.irem, 1) := by decide +kernel
theorem dL_law_282 : decode cL_law 282 = .ok (.ifCond .ne 77, 3) := by decide +kernel
theorem dL_law_285 : decode cL_law 285 = .ok (.aload_n 1, 1) := by decide +kernel
theorem dL_law_286 : decode cL_law 286 = .ok (.invokestatic 83, 3) := by decide +kernel
theorem dL_law_289 : decode cL_law 289 = .ok (.lstore 10, 2) := by decide +kernel
theorem dL_law_291 : decode cL_law 291 = .ok (.aload_n 1, 1) := by decide +kernel
theorem dL_law_292 : decode cL_law 292 = .ok (.iconst 0, 1) := by decide +kernel
theorem dL_law_293 : decode cL_law 293 = .ok (.invokevirtual 67, 3) := by decide +kernel
theorem dL_law_296 : decode cL_law 296 = .ok (.istore 12, 2) := by decide +kernel
theorem dL_law_298 : decode cL_law 298 = .ok (.iload 12, 2) := by decide +kernel
theorem dL_law_300 : decode cL_law 300 = .ok (.ifCond .lt 57, 3) := by decide +kernel
theorem dL_law_303 : decode cL_law 303 = .ok (.aload_n 1, 1) := by decide +kernel
theorem dL_law_304 : decode cL_law 304 = .ok (.invokevirtual 95, 3) := by decide +kernel
theorem dL_law_307 : decode cL_law 307 = .ok (.iload 7, 2) := by decide +kernel
theorem dL_law_309 : decode cL_law 309 = .ok (.bipush 6, 2) := by decide +kernel
theorem dL_law_311 : decode cL_law 311 = .ok (.if_icmp .ge 8, 3) := by decide +kernel
theorem dL_law_314 : decode cL_law 314 = .ok (.iload 7, 2) := by decide +kernel
theorem dL_law_316 : decode cL_law 316 = .ok (.goto 4, 3) := by decide +kernel
theorem dL_law_319 : decode cL_law 319 = .ok (.iconst 5, 1) := by decide +kernel
theorem dL_law_320 : decode cL_law 320 = .ok (.if_icmp .ne 37, 3) := by decide +kernel
theorem dL_law_323 : decode cL_law 323 = .ok (.aload_n 1, 1) := by decide +kernel
theorem dL_law_324 : decode cL_law 324 = .ok (.invokestatic 83, 3) := by decide +kernel
theorem dL_law_327 : decode cL_law 327 = .ok (.lload 5, 2) := by decide +kernel
theorem dL_law_329 : decode cL_law 329 = .ok (.lcmp, 1) := by decide +kernel
theorem dL_law_330 : decode cL_law 330 = .ok (.ifCond .ne 27, 3) := by decide +kernel
theorem dL_law_333 : decode cL_law 333 = .ok (.aload_n 1, 1) := by decide +kernel
theorem dL_law_334 : decode cL_law 334 = .ok (.iconst 0, 1) := by decide +kernel
theorem dL_law_335 : decode cL_law 335 = .ok (.invokevirtual 70, 3) := by decide +kernel
theorem dL_law_338 : decode cL_law 338 = .ok (.iload 12, 2) := by decide +kernel
theorem dL_law_340 : decode cL_law 340 = .ok (.if_icmp .ne 17, 3) := by decide +kernel
theorem dL_law_343 : decode cL_law 343 = .ok (.aload_n 1, 1) := by decide +kernel
theorem dL_law_344 : decode cL_law 344 = .ok (.invokestatic 83, 3) := by decide +kernel
theorem dL_law_347 : decode cL_law 347 = .ok (.lload 10, 2) := by decide +kernel
theorem dL_law_349 : decode cL_law 349 = .ok (.lcmp, 1) := by decide +kernel
theorem dL_law_350 : decode cL_law 350 = .ok (.ifCond .ne 7, 3) := by decide +kernel
theorem dL_law_353 : decode cL_law 353 = .ok (.iconst 1, 1) := by decide +kernel
theorem dL_law_354 : decode cL_law 354 = .ok (.goto 4, 3) := by decide +kernel
theorem dL_law_357 : decode cL_law 357 = .ok (.iconst 0, 1) := by decide +kernel
theorem dL_law_358 : decode cL_law 358 = .ok (.istore_n 2, 1) := by decide +kernel
theorem dL_law_359 : decode cL_law 359 = .ok (.iinc 3 1, 3) := by decide +kernel
theorem dL_law_362 : decode cL_law 362 = .ok (.goto (-235), 3) := by decide +kernel
theorem dL_law_365 : decode cL_law 365 = .ok (.iload_n 2, 1) := by decide +kernel
theorem dL_law_366 : decode cL_law 366 = .ok (.ifCond .eq 37, 3) := by decide +kernel
theorem dL_law_369 : decode cL_law 369 = .ok (.aload_n 1, 1) := by decide +kernel
theorem dL_law_370 : decode cL_law 370 = .ok (.iconst 1, 1) := by decide +kernel
theorem dL_law_371 : decode cL_law 371 = .ok (.invokevirtual 70, 3) := by decide +kernel
theorem dL_law_374 : decode cL_law 374 = .ok (.ifCond .ne 29, 3) := by decide +kernel
theorem dL_law_377 : decode cL_law 377 = .ok (.aload_n 1, 1) := by decide +kernel
theorem dL_law_378 : decode cL_law 378 = .ok (.iconst 5, 1) := by decide +kernel
theorem dL_law_379 : decode cL_law 379 = .ok (.invokevirtual 14, 3) := by decide +kernel
theorem dL_law_382 : decode cL_law 382 = .ok (.ifCond .ne 21, 3) := by decide +kernel
theorem dL_law_385 : decode cL_law 385 = .ok (.aload_n 1, 1) := by decide +kernel
theorem dL_law_386 : decode cL_law 386 = .ok (.invokevirtual 95, 3) := by decide +kernel
theorem dL_law_389 : decode cL_law 389 = .ok (.ifCond .lt 14, 3) := by decide +kernel
theorem dL_law_392 : decode cL_law 392 = .ok (.aload_n 1, 1) := by decide +kernel
theorem dL_law_393 : decode cL_law 393 = .ok (.invokestatic 109, 3) := by decide +kernel
theorem dL_law_396 : decode cL_law 396 = .ok (.ifCond .eq 7, 3) := by decide +kernel
theorem dL_law_399 : decode cL_law 399 = .ok (.iconst 1, 1) := by decide +kernel
theorem dL_law_400 : decode cL_law 400 = .ok (.goto 4, 3) := by decide +kernel
theorem dL_law_403 : decode cL_law 403 = .ok (.iconst 0, 1) := by decide +kernel
theorem dL_law_404 : decode cL_law 404 = .ok (.ireturn, 1) := by decide +kernel
end
section
/-! ===== pools: the whole world is one pool va_pl L f; a judgement pv_G that hides heap, written places and locals' row ===== -/
/-- the constants of a world: classes and slots, array classes (0 char, 1 int, 2 boolean, 3 School), addresses of the three static tables -/
abbrev pv_Kt : Type := va_G × (Nat → ClassId) × (Nat → Nat)
abbrev pv_tys (κ : pv_Kt) : List (ClassId × FieldType) := [(κ.2.1 0, .char), (κ.2.1 1, .int), (κ.2.1 2, .boolean), (κ.2.1 3, .object "ExcuseTariffs$School")]
def pv_t0 : Nat → Int32 := fun k => match k with | 0 => 40 | 1 => 25 | 2 => 3 | 3 => 5 | _ => 4
def pv_t1 : Nat → Int32 := fun k => match k with | 0 => 1 | 1 => 0 | 2 => 1 | 3 => 1 | _ => 0
def pv_t2 : Nat → Int32 := fun k => match k with | 0 => 99 | 1 => 50 | 2 => 9 | 3 => 60 | _ => 20
def pv_tb (n : String) (t : Nat) (f : Nat → Int32) (A : Nat → Prop) (U : State) : Prop := va_Z "ExcuseTariffs" n "[I" (.ref t) A U U.heap ∧ va_T .int t 5 (fun j => .int (f j)) A U U.heap
/-- the links between nest mates -/
def pv_N (U : State) : Prop := va_Nw (.methodLinkNest RX4 33 yX1_init "ExcuseTariffs") U ∧ va_Nw (.methodLinkNest RX4 40 yX2_init "ExcuseTariffs") U ∧ va_Nw (.methodLinkNest RX2 54 yX4_isWithin "ExcuseTariffs") U ∧ va_Nw (.methodLinkNest RX3 61 yX4_copy "ExcuseTariffs") U ∧ va_Nw (.methodLinkNest RX3 73 yX4_classOf "ExcuseTariffs") U ∧ va_Nw (.fieldLinkNest RX3 9 RX4 "FIRST_SETTINGS" "[I" "ExcuseTariffs") U
def pv_T (κ : pv_Kt) (A : Nat → Prop) (U : State) : Prop := (pv_tb "FIRST_SETTINGS" (κ.2.2 0) pv_t0 A U ∧ pv_tb "LEAST_SETTINGS" (κ.2.2 1) pv_t1 A U ∧ pv_tb "MOST_SETTINGS" (κ.2.2 2) pv_t2 A U) ∧ pv_N U ∧ va_AO RX3 U
theorem pv_N.warm {s U : State} (hW : s.WarmedH U.vm) (h : pv_N s) : pv_N U := ⟨va_Nw.warmM hW h.1, va_Nw.warmM hW h.2.1, va_Nw.warmM hW h.2.2.1, va_Nw.warmM hW h.2.2.2.1, va_Nw.warmM hW h.2.2.2.2.1, va_Nw.warmF hW h.2.2.2.2.2⟩
theorem pv_N.same {s U : State} (hv : s.vm = U.vm) (h : pv_N s) : pv_N U := ⟨va_Nw.same rfl hv h.1, va_Nw.same rfl hv h.2.1, va_Nw.same rfl hv h.2.2.1, va_Nw.same rfl hv h.2.2.2.1, va_Nw.same rfl hv h.2.2.2.2.1, va_Nw.same rfl hv h.2.2.2.2.2⟩
theorem pv_tb.go {n : String} {t : Nat} {f : Nat → Int32} {A B : Nat → Prop} {u U : State} (hvm : u.vm.Alike U.vm) (hq : ∀ a : Nat, a < u.heap.size → ¬ A a → U.heap[a]? = u.heap[a]?) (hAB : ∀ q, q < u.heap.size → B q → A q) (h : pv_tb n t f A u) : pv_tb n t f B U := by
  obtain ⟨⟨cf, kf, fi, fd, a, cell, h1, h2, h3, h4, h5, h6, h7, h8⟩, ⟨c2, g1, g2, g3, g4, g5, g6, g7⟩⟩ := h
  have l5 := (Array.getElem?_eq_some_iff.mp h5).1
  have l1 := (Array.getElem?_eq_some_iff.mp g1).1
  obtain ⟨k', hi', he⟩ := State.fieldFound?_setVm hvm h1
  exact ⟨⟨cf, k', fi, fd, a, cell, hi', h2, by rw [he]; exact h3, by rw [he]; exact h4, by rw [hq a l5 h8]; exact h5, h6, h7, fun z => h8 (hAB a l5 z)⟩, ⟨c2, by rw [hq t l1 g7]; exact g1, State.isArrayOf_alike hvm g2, g3, g4, g5, g6, fun z => g7 (hAB t l1 z)⟩⟩
/-- a method's start -/
def pv_P (κ : pv_Kt) (L : List Nat) (f : Nat → va_E) (sz : Nat) (U : State) : Prop := U.heap.size = sz ∧ va_P κ.1 vwCl (va_pl L f) U.heap ∧ va_K κ.1 vwCl (pv_tys κ) U ∧ va_D (fun _ => True) (va_pl L f) ∧ pv_T κ (va_A (va_pl L f) sz) U
/-- the world behind it -/
def pv_B (κ : pv_Kt) (A : Nat → Prop) (u : List Nat × (Nat → va_E)) (t : State) : Prop := va_P κ.1 vwCl (va_pl u.1 u.2) t.heap ∧ va_K κ.1 vwCl (pv_tys κ) t ∧ va_D A (va_pl u.1 u.2)
/-- contracts: an answer that is an int (or boolean); none -/
def pv_Mi (l : Launch) (κ : pv_Kt) (y : MethodName) (ws : List Cond) (rm : Room) (L : List Nat) (f : Nat → va_E) (av : List Value) (mc ms : Nat) (post : Int32 → List Nat × (Nat → va_E) → Prop) : Prop := ∀ sz : Nat, Met l y ws rm (va_Pc av (pv_P κ L f sz)) (va_Qi post (pv_B κ (va_A (va_pl L f) sz)) (va_A (va_pl L f) sz)) mc ms (va_A (va_pl L f) sz)
def pv_Mv (l : Launch) (κ : pv_Kt) (y : MethodName) (ws : List Cond) (rm : Room) (L : List Nat) (f : Nat → va_E) (av : List Value) (mc ms : Nat) (post : List Nat × (Nat → va_E) → Prop) : Prop := ∀ sz : Nat, Met l y ws rm (va_Pc av (pv_P κ L f sz)) (va_Qv post (pv_B κ (va_A (va_pl L f) sz)) (va_A (va_pl L f) sz)) mc ms (va_A (va_pl L f) sz)
/-- what a body stands on -/
def pv_C (κ : pv_Kt) (p : Program) (R : Room) (s : State) (m : MethodId) (args : Array Value) (meth : Method) (c : Code) (y : MethodName) (cc : ByteArray) (nL : Nat) (Ts : List Cond) (rt : Option FieldType) (A : Nat → Prop) : Prop :=
  p.tables.exec = Jvm.exec ∧ c.code = cc ∧ c.maxLocals = nL ∧ s.vm.findClass y.cls = some m.cls ∧ (∀ w ∈ Ts, w.before args s = true) ∧ meth.sig.returnType = rt ∧ meth.locks = false ∧ va_K κ.1 vwCl (pv_tys κ) s ∧ (∀ q : Nat, s.heap.size ≤ q → A q) ∧ pv_T κ A s ∧ meth.name = y.name
def pv_G (κ : pv_Kt) (p : Program) (l : Launch) (e : Env) (R : Room) (s : State) (m : MethodId) (args : Array Value) (below : List Frame) (meth : Method) (c : Code) (Q : State → Prop) (A : Nat → Prop) (nL : Nat) (cells slots : Nat) (L : List Nat) (f : Nat → va_E) (pc : Nat) (vs : List (Nat × Value)) (st : List Value) : Prop :=
  ∀ (H : Heap) (locs : List Loc) (ls : Array Slot), va_P κ.1 vwCl (va_pl L f) H → va_D A (va_pl L f) → va_S A s.heap H locs → lv_has ls nL vs → W p l e R s m args below meth c H locs cells slots Q (F0 m pc ls st)
theorem pv_startI {l : Launch} {κ : pv_Kt} {y : MethodName} {ws ws' : List Cond} {rm : Room} {L : List Nat} {f : Nat → va_E} {av : List Value} {mc ms : Nat} {post : Int32 → List Nat × (Nat → va_E) → Prop} {cc : ByteArray} {maxL : Nat} {ret : Option FieldType} (hy : plainName y.cls = true) (hw : ws = Cond.code y cc maxL ret :: ws') (hlen : (lg_sl av).length ≤ maxL)
    (body : ∀ (A : Nat → Prop) (p : Program) (e : Env) (s : State) (m : MethodId) (args : Array Value) (below : List Frame) (meth : Method) (c : Code), pv_C κ p rm s m args meth c y cc maxL ws ret A → pv_G κ p l e rm s m args below meth c (MQ below (va_Qi post (pv_B κ A) A) args s mc ms A) A maxL 0 0 L f 0 (lv_args 0 av) []) : pv_Mi l κ y ws rm L f av mc ms post := by
  intro sz
  refine Met.ofW (cc := cc) (maxL := maxL) (ret := ret) hy hw ?_
  intro p e s m args below meth c s₁ B hml hv
  obtain ⟨rfl, hsz, hP, hK, hD0, hT⟩ := hv
  subst hsz
  have hn := name_of_methodNamed B.named B.method
  have C : pv_C κ p rm s m av.toArray meth c y cc maxL ws ret (va_A (va_pl L f) s.heap.size) := ⟨B.exec, B.bytes, hml, findClass_of_methodNamed B.named, atoms_spec (ws := ws) B.pre, B.returns, B.notSynchronized, hK, fun q h => Or.inr h, hT, hn.1⟩
  rw [lg_entry_eq]
  exact body _ p e s m _ below meth c C s.heap [] _ hP (hD0.self (sz := s.heap.size)) va_S.rf (lv_entry av hlen)
theorem pv_startV {l : Launch} {κ : pv_Kt} {y : MethodName} {ws ws' : List Cond} {rm : Room} {L : List Nat} {f : Nat → va_E} {av : List Value} {mc ms : Nat} {post : List Nat × (Nat → va_E) → Prop} {cc : ByteArray} {maxL : Nat} {ret : Option FieldType} (hy : plainName y.cls = true) (hw : ws = Cond.code y cc maxL ret :: ws') (hlen : (lg_sl av).length ≤ maxL)
    (body : ∀ (A : Nat → Prop) (p : Program) (e : Env) (s : State) (m : MethodId) (args : Array Value) (below : List Frame) (meth : Method) (c : Code), pv_C κ p rm s m args meth c y cc maxL ws ret A → pv_G κ p l e rm s m args below meth c (MQ below (va_Qv post (pv_B κ A) A) args s mc ms A) A maxL 0 0 L f 0 (lv_args 0 av) []) : pv_Mv l κ y ws rm L f av mc ms post := by
  intro sz
  refine Met.ofW (cc := cc) (maxL := maxL) (ret := ret) hy hw ?_
  intro p e s m args below meth c s₁ B hml hv
  obtain ⟨rfl, hsz, hP, hK, hD0, hT⟩ := hv
  subst hsz
  have hn := name_of_methodNamed B.named B.method
  have C : pv_C κ p rm s m av.toArray meth c y cc maxL ws ret (va_A (va_pl L f) s.heap.size) := ⟨B.exec, B.bytes, hml, findClass_of_methodNamed B.named, atoms_spec (ws := ws) B.pre, B.returns, B.notSynchronized, hK, fun q h => Or.inr h, hT, hn.1⟩
  rw [lg_entry_eq]
  exact body _ p e s m _ below meth c C s.heap [] _ hP (hD0.self (sz := s.heap.size)) va_S.rf (lv_entry av hlen)
end
section
section PVR
variable {κ : pv_Kt} {p : Program} {l : Launch} {e : Env} {R : Room} {s : State} {m : MethodId} {args : Array Value} {below : List Frame} {meth : Method} {c : Code} {Q : State → Prop} {A : Nat → Prop} {nL : Nat} {cells slots : Nat} {L : List Nat} {f : Nat → va_E} {pc : Nat} {vs : List (Nat × Value)} {st : List Value}
variable {y : MethodName} {cc : ByteArray} {Ts : List Cond} {rt : Option FieldType}
theorem pg_widen {k n : Nat} (h1 : cells ≤ k) (h2 : slots ≤ n) (kk : pv_G κ p l e R s m args below meth c Q A nL k n L f pc vs st) : pv_G κ p l e R s m args below meth c Q A nL cells slots L f pc vs st := fun H locs ls hP hD hS h => W.widen h1 h2 (kk H locs ls hP hD hS h)
theorem pg_top {x x' : Int32} (hx : x = x') (kk : pv_G κ p l e R s m args below meth c Q A nL cells slots L f pc vs (.int x' :: st)) : pv_G κ p l e R s m args below meth c Q A nL cells slots L f pc vs (.int x :: st) := hx ▸ kk
theorem pg_topl {x x' : Int64} (hx : x = x') (kk : pv_G κ p l e R s m args below meth c Q A nL cells slots L f pc vs (.long x' :: st)) : pv_G κ p l e R s m args below meth c Q A nL cells slots L f pc vs (.long x :: st) := hx ▸ kk
theorem pg_nam {x : Int32} (kk : ∀ x' : Int32, x' = x → pv_G κ p l e R s m args below meth c Q A nL cells slots L f pc vs (.int x' :: st)) : pv_G κ p l e R s m args below meth c Q A nL cells slots L f pc vs (.int x :: st) := kk x rfl
theorem pg_naml {x : Int64} (kk : ∀ x' : Int64, x' = x → pv_G κ p l e R s m args below meth c Q A nL cells slots L f pc vs (.long x' :: st)) : pv_G κ p l e R s m args below meth c Q A nL cells slots L f pc vs (.long x :: st) := kk x rfl
theorem pg_sub {vs' : List (Nat × Value)} (ks : List Nat) (hl : lv_pick vs ks = vs') (kk : pv_G κ p l e R s m args below meth c Q A nL cells slots L f pc vs' st) : pv_G κ p l e R s m args below meth c Q A nL cells slots L f pc vs st := fun H locs ls hP hD hS h => kk H locs ls hP hD hS (lv_sub h ks hl)
theorem pg_f {g : Nat → va_E} (hg : f = g) (kk : pv_G κ p l e R s m args below meth c Q A nL cells slots L g pc vs st) : pv_G κ p l e R s m args below meth c Q A nL cells slots L f pc vs st := hg ▸ kk
theorem pg_iconst (hC : pv_C κ p R s m args meth c y cc nL Ts rt A) {n : Int} {v : Int32} (hdg : decode cc pc = .ok (.iconst n, 1)) (hv : Int32.ofInt n = v) (kk : pv_G κ p l e R s m args below meth c Q A nL cells slots L f (pc + 1) vs (.int v :: st)) : pv_G κ p l e R s m args below meth c Q A nL cells slots L f pc vs st := fun H locs ls hP hD hS h => lv_iconst hC.1 hC.2.1 hdg hv (kk H locs ls hP hD hS h)
theorem pg_bipush (hC : pv_C κ p R s m args meth c y cc nL Ts rt A) {n : Int} {v : Int32} (hdg : decode cc pc = .ok (.bipush n, 2)) (hv : (Int8.ofInt n).toInt32 = v) (kk : pv_G κ p l e R s m args below meth c Q A nL cells slots L f (pc + 2) vs (.int v :: st)) : pv_G κ p l e R s m args below meth c Q A nL cells slots L f pc vs st := fun H locs ls hP hD hS h => lv_bipush hC.1 hC.2.1 hdg hv (kk H locs ls hP hD hS h)
theorem pg_sipush (hC : pv_C κ p R s m args meth c y cc nL Ts rt A) {n : Int} {v : Int32} (hdg : decode cc pc = .ok (.sipush n, 3)) (hv : (Int16.ofInt n).toInt32 = v) (kk : pv_G κ p l e R s m args below meth c Q A nL cells slots L f (pc + 3) vs (.int v :: st)) : pv_G κ p l e R s m args below meth c Q A nL cells slots L f pc vs st := fun H locs ls hP hD hS h => lv_sipush hC.1 hC.2.1 hdg hv (kk H locs ls hP hD hS h)
theorem pg_lconst (hC : pv_C κ p R s m args meth c y cc nL Ts rt A) {n : Fin 2} {v : Int64} (hdg : decode cc pc = .ok (.lconst n, 1)) (hv : Int64.ofNat (n : Nat) = v) (kk : pv_G κ p l e R s m args below meth c Q A nL cells slots L f (pc + 1) vs (.long v :: st)) : pv_G κ p l e R s m args below meth c Q A nL cells slots L f pc vs st := fun H locs ls hP hD hS h => lv_lconst hC.1 hC.2.1 hdg hv (kk H locs ls hP hD hS h)
theorem pg_ldc2 (hC : pv_C κ p R s m args meth c y cc nL Ts rt A) {index : Nat} {v : Int64} (hdg : decode cc pc = .ok (.ldc2_w index, 3)) (hw : Cond.constantLong y.cls index v ∈ Ts) (kk : pv_G κ p l e R s m args below meth c Q A nL cells slots L f (pc + 3) vs (.long v :: st)) : pv_G κ p l e R s m args below meth c Q A nL cells slots L f pc vs st := fun H locs ls hP hD hS h => lv_ldc2 hC.1 hC.2.1 hC.2.2.2.1 (hC.2.2.2.2.1 _ hw) hdg (kk H locs ls hP hD hS h)
theorem pg_iload_n (hC : pv_C κ p R s m args meth c y cc nL Ts rt A) {k : Fin 4} {i : Nat} {x : Int32} (hdg : decode cc pc = .ok (.iload_n k, 1)) (j : Nat) (hl : vs[j]? = some (i, .int x)) (hi : (k : Nat) = i) (kk : pv_G κ p l e R s m args below meth c Q A nL cells slots L f (pc + 1) vs (.int x :: st)) : pv_G κ p l e R s m args below meth c Q A nL cells slots L f pc vs st := fun H locs ls hP hD hS h => lv_iload_n hC.1 hC.2.1 hdg hi (lv_at h j hl) (kk H locs ls hP hD hS h)
theorem pg_iload (hC : pv_C κ p R s m args meth c y cc nL Ts rt A) {i : Nat} {x : Int32} (hdg : decode cc pc = .ok (.iload i, 2)) (j : Nat) (hl : vs[j]? = some (i, .int x)) (kk : pv_G κ p l e R s m args below meth c Q A nL cells slots L f (pc + 2) vs (.int x :: st)) : pv_G κ p l e R s m args below meth c Q A nL cells slots L f pc vs st := fun H locs ls hP hD hS h => lv_iload hC.1 hC.2.1 hdg (lv_at h j hl) (kk H locs ls hP hD hS h)
theorem pg_lload_n (hC : pv_C κ p R s m args meth c y cc nL Ts rt A) {k : Fin 4} {i : Nat} {x : Int64} (hdg : decode cc pc = .ok (.lload_n k, 1)) (j : Nat) (hl : vs[j]? = some (i, .long x)) (hi : (k : Nat) = i) (kk : pv_G κ p l e R s m args below meth c Q A nL cells slots L f (pc + 1) vs (.long x :: st)) : pv_G κ p l e R s m args below meth c Q A nL cells slots L f pc vs st := fun H locs ls hP hD hS h => lv_lload_n hC.1 hC.2.1 hdg hi (lv_at h j hl) (kk H locs ls hP hD hS h)
theorem pg_lload (hC : pv_C κ p R s m args meth c y cc nL Ts rt A) {i : Nat} {x : Int64} (hdg : decode cc pc = .ok (.lload i, 2)) (j : Nat) (hl : vs[j]? = some (i, .long x)) (kk : pv_G κ p l e R s m args below meth c Q A nL cells slots L f (pc + 2) vs (.long x :: st)) : pv_G κ p l e R s m args below meth c Q A nL cells slots L f pc vs st := fun H locs ls hP hD hS h => lv_lload hC.1 hC.2.1 hdg (lv_at h j hl) (kk H locs ls hP hD hS h)
theorem pg_aload_n (hC : pv_C κ p R s m args meth c y cc nL Ts rt A) {k : Fin 4} {i : Nat} {x : Nat} (hdg : decode cc pc = .ok (.aload_n k, 1)) (j : Nat) (hl : vs[j]? = some (i, .ref x)) (hi : (k : Nat) = i) (kk : pv_G κ p l e R s m args below meth c Q A nL cells slots L f (pc + 1) vs (.ref x :: st)) : pv_G κ p l e R s m args below meth c Q A nL cells slots L f pc vs st := fun H locs ls hP hD hS h => lv_aload_n hC.1 hC.2.1 hdg hi (lv_at h j hl) (kk H locs ls hP hD hS h)
theorem pg_aload (hC : pv_C κ p R s m args meth c y cc nL Ts rt A) {i : Nat} {x : Nat} (hdg : decode cc pc = .ok (.aload i, 2)) (j : Nat) (hl : vs[j]? = some (i, .ref x)) (kk : pv_G κ p l e R s m args below meth c Q A nL cells slots L f (pc + 2) vs (.ref x :: st)) : pv_G κ p l e R s m args below meth c Q A nL cells slots L f pc vs st := fun H locs ls hP hD hS h => lv_aload hC.1 hC.2.1 hdg (lv_at h j hl) (kk H locs ls hP hD hS h)
theorem pg_istore_n (hC : pv_C κ p R s m args meth c y cc nL Ts rt A) {k : Fin 4} {i : Nat} {x : Int32} {vs' : List (Nat × Value)} (hdg : decode cc pc = .ok (.istore_n k, 1)) (hi : (k : Nat) = i) (hn : i < nL) (hl : (i, Value.int x) :: vs.filter (fun q => !(q.1 == i) && !(q.1 + 1 == i && q.2.category == 2)) = vs') (kk : pv_G κ p l e R s m args below meth c Q A nL cells slots L f (pc + 1) vs' st) : pv_G κ p l e R s m args below meth c Q A nL cells slots L f pc vs (.int x :: st) := fun H locs ls hP hD hS h => lv_istore_n hC.1 hC.2.1 hdg hi h hn hl (fun ls' h' => kk H locs ls' hP hD hS h')
theorem pg_istore (hC : pv_C κ p R s m args meth c y cc nL Ts rt A) {i : Nat} {x : Int32} {vs' : List (Nat × Value)} (hdg : decode cc pc = .ok (.istore i, 2)) (hn : i < nL) (hl : (i, Value.int x) :: vs.filter (fun q => !(q.1 == i) && !(q.1 + 1 == i && q.2.category == 2)) = vs') (kk : pv_G κ p l e R s m args below meth c Q A nL cells slots L f (pc + 2) vs' st) : pv_G κ p l e R s m args below meth c Q A nL cells slots L f pc vs (.int x :: st) := fun H locs ls hP hD hS h => lv_istore hC.1 hC.2.1 hdg h hn hl (fun ls' h' => kk H locs ls' hP hD hS h')
theorem pg_lstore_n (hC : pv_C κ p R s m args meth c y cc nL Ts rt A) {k : Fin 4} {i : Nat} {x : Int64} {vs' : List (Nat × Value)} (hdg : decode cc pc = .ok (.lstore_n k, 1)) (hi : (k : Nat) = i) (hn : i + 1 < nL) (hl : (i, Value.long x) :: vs.filter (fun q => !(q.1 == i) && (!(q.1 == i + 1) && !(q.1 + 1 == i && q.2.category == 2))) = vs') (kk : pv_G κ p l e R s m args below meth c Q A nL cells slots L f (pc + 1) vs' st) : pv_G κ p l e R s m args below meth c Q A nL cells slots L f pc vs (.long x :: st) := fun H locs ls hP hD hS h => lv_lstore_n hC.1 hC.2.1 hdg hi h hn hl (fun ls' h' => kk H locs ls' hP hD hS h')
theorem pg_lstore (hC : pv_C κ p R s m args meth c y cc nL Ts rt A) {i : Nat} {x : Int64} {vs' : List (Nat × Value)} (hdg : decode cc pc = .ok (.lstore i, 2)) (hn : i + 1 < nL) (hl : (i, Value.long x) :: vs.filter (fun q => !(q.1 == i) && (!(q.1 == i + 1) && !(q.1 + 1 == i && q.2.category == 2))) = vs') (kk : pv_G κ p l e R s m args below meth c Q A nL cells slots L f (pc + 2) vs' st) : pv_G κ p l e R s m args below meth c Q A nL cells slots L f pc vs (.long x :: st) := fun H locs ls hP hD hS h => lv_lstore hC.1 hC.2.1 hdg h hn hl (fun ls' h' => kk H locs ls' hP hD hS h')
theorem pg_astore_n (hC : pv_C κ p R s m args meth c y cc nL Ts rt A) {k : Fin 4} {i : Nat} {x : Nat} {vs' : List (Nat × Value)} (hdg : decode cc pc = .ok (.astore_n k, 1)) (hi : (k : Nat) = i) (hn : i < nL) (hl : (i, Value.ref x) :: vs.filter (fun q => !(q.1 == i) && !(q.1 + 1 == i && q.2.category == 2)) = vs') (kk : pv_G κ p l e R s m args below meth c Q A nL cells slots L f (pc + 1) vs' st) : pv_G κ p l e R s m args below meth c Q A nL cells slots L f pc vs (.ref x :: st) := fun H locs ls hP hD hS h => lv_astore_n hC.1 hC.2.1 hdg hi h hn hl (fun ls' h' => kk H locs ls' hP hD hS h')
theorem pg_astore (hC : pv_C κ p R s m args meth c y cc nL Ts rt A) {i : Nat} {x : Nat} {vs' : List (Nat × Value)} (hdg : decode cc pc = .ok (.astore i, 2)) (hn : i < nL) (hl : (i, Value.ref x) :: vs.filter (fun q => !(q.1 == i) && !(q.1 + 1 == i && q.2.category == 2)) = vs') (kk : pv_G κ p l e R s m args below meth c Q A nL cells slots L f (pc + 2) vs' st) : pv_G κ p l e R s m args below meth c Q A nL cells slots L f pc vs (.ref x :: st) := fun H locs ls hP hD hS h => lv_astore hC.1 hC.2.1 hdg h hn hl (fun ls' h' => kk H locs ls' hP hD hS h')
theorem pg_iinc (hC : pv_C κ p R s m args meth c y cc nL Ts rt A) {i : Nat} {n : Int} {x v : Int32} {vs' : List (Nat × Value)} (hdg : decode cc pc = .ok (.iinc i n, 3)) (j : Nat) (hk : vs[j]? = some (i, .int x)) (hv : x + Int32.ofInt n = v) (hn : i < nL) (hl : (i, Value.int v) :: vs.filter (fun q => !(q.1 == i) && !(q.1 + 1 == i && q.2.category == 2)) = vs') (kk : pv_G κ p l e R s m args below meth c Q A nL cells slots L f (pc + 3) vs' st) : pv_G κ p l e R s m args below meth c Q A nL cells slots L f pc vs st := fun H locs ls hP hD hS h => lv_iinc hC.1 hC.2.1 hdg h hk hv hn hl (fun ls' h' => kk H locs ls' hP hD hS h')
theorem pg_iadd (hC : pv_C κ p R s m args meth c y cc nL Ts rt A) {x y v : Int32} (hdg : decode cc pc = .ok (.iadd, 1)) (hv : x + y = v) (kk : pv_G κ p l e R s m args below meth c Q A nL cells slots L f (pc + 1) vs (.int v :: st)) : pv_G κ p l e R s m args below meth c Q A nL cells slots L f pc vs (.int y :: .int x :: st) := fun H locs ls hP hD hS h => by subst hv; exact lv_iadd hC.1 hC.2.1 hdg (kk H locs ls hP hD hS h)
theorem pg_isub (hC : pv_C κ p R s m args meth c y cc nL Ts rt A) {x y v : Int32} (hdg : decode cc pc = .ok (.isub, 1)) (hv : x - y = v) (kk : pv_G κ p l e R s m args below meth c Q A nL cells slots L f (pc + 1) vs (.int v :: st)) : pv_G κ p l e R s m args below meth c Q A nL cells slots L f pc vs (.int y :: .int x :: st) := fun H locs ls hP hD hS h => by subst hv; exact lv_isub hC.1 hC.2.1 hdg (kk H locs ls hP hD hS h)
theorem pg_imul (hC : pv_C κ p R s m args meth c y cc nL Ts rt A) {x y v : Int32} (hdg : decode cc pc = .ok (.imul, 1)) (hv : x * y = v) (kk : pv_G κ p l e R s m args below meth c Q A nL cells slots L f (pc + 1) vs (.int v :: st)) : pv_G κ p l e R s m args below meth c Q A nL cells slots L f pc vs (.int y :: .int x :: st) := fun H locs ls hP hD hS h => by subst hv; exact lv_imul hC.1 hC.2.1 hdg (kk H locs ls hP hD hS h)
theorem pg_iand (hC : pv_C κ p R s m args meth c y cc nL Ts rt A) {x y v : Int32} (hdg : decode cc pc = .ok (.iand, 1)) (hv : x &&& y = v) (kk : pv_G κ p l e R s m args below meth c Q A nL cells slots L f (pc + 1) vs (.int v :: st)) : pv_G κ p l e R s m args below meth c Q A nL cells slots L f pc vs (.int y :: .int x :: st) := fun H locs ls hP hD hS h => by subst hv; exact lv_iand hC.1 hC.2.1 hdg (kk H locs ls hP hD hS h)
theorem pg_ior (hC : pv_C κ p R s m args meth c y cc nL Ts rt A) {x y v : Int32} (hdg : decode cc pc = .ok (.ior, 1)) (hv : x ||| y = v) (kk : pv_G κ p l e R s m args below meth c Q A nL cells slots L f (pc + 1) vs (.int v :: st)) : pv_G κ p l e R s m args below meth c Q A nL cells slots L f pc vs (.int y :: .int x :: st) := fun H locs ls hP hD hS h => by subst hv; exact lv_ior hC.1 hC.2.1 hdg (kk H locs ls hP hD hS h)
theorem pg_ixor (hC : pv_C κ p R s m args meth c y cc nL Ts rt A) {x y v : Int32} (hdg : decode cc pc = .ok (.ixor, 1)) (hv : x ^^^ y = v) (kk : pv_G κ p l e R s m args below meth c Q A nL cells slots L f (pc + 1) vs (.int v :: st)) : pv_G κ p l e R s m args below meth c Q A nL cells slots L f pc vs (.int y :: .int x :: st) := fun H locs ls hP hD hS h => by subst hv; exact lv_ixor hC.1 hC.2.1 hdg (kk H locs ls hP hD hS h)
theorem pg_ishl (hC : pv_C κ p R s m args meth c y cc nL Ts rt A) {x y v : Int32} (hdg : decode cc pc = .ok (.ishl, 1)) (hv : x <<< (y &&& 31) = v) (kk : pv_G κ p l e R s m args below meth c Q A nL cells slots L f (pc + 1) vs (.int v :: st)) : pv_G κ p l e R s m args below meth c Q A nL cells slots L f pc vs (.int y :: .int x :: st) := fun H locs ls hP hD hS h => by subst hv; exact lv_ishl hC.1 hC.2.1 hdg (kk H locs ls hP hD hS h)
theorem pg_ishr (hC : pv_C κ p R s m args meth c y cc nL Ts rt A) {x y v : Int32} (hdg : decode cc pc = .ok (.ishr, 1)) (hv : x >>> (y &&& 31) = v) (kk : pv_G κ p l e R s m args below meth c Q A nL cells slots L f (pc + 1) vs (.int v :: st)) : pv_G κ p l e R s m args below meth c Q A nL cells slots L f pc vs (.int y :: .int x :: st) := fun H locs ls hP hD hS h => by subst hv; exact lv_ishr hC.1 hC.2.1 hdg (kk H locs ls hP hD hS h)
theorem pg_idiv (hC : pv_C κ p R s m args meth c y cc nL Ts rt A) {x y v : Int32} (hdg : decode cc pc = .ok (.idiv, 1)) (hne : ¬ y = 0) (hv : x / y = v) (kk : pv_G κ p l e R s m args below meth c Q A nL cells slots L f (pc + 1) vs (.int v :: st)) : pv_G κ p l e R s m args below meth c Q A nL cells slots L f pc vs (.int y :: .int x :: st) := fun H locs ls hP hD hS h => by subst hv; exact lv_idiv hC.1 hC.2.1 hdg hne (kk H locs ls hP hD hS h)
theorem pg_irem (hC : pv_C κ p R s m args meth c y cc nL Ts rt A) {x y v : Int32} (hdg : decode cc pc = .ok (.irem, 1)) (hne : ¬ y = 0) (hv : x - x / y * y = v) (kk : pv_G κ p l e R s m args below meth c Q A nL cells slots L f (pc + 1) vs (.int v :: st)) : pv_G κ p l e R s m args below meth c Q A nL cells slots L f pc vs (.int y :: .int x :: st) := fun H locs ls hP hD hS h => by subst hv; exact lv_irem hC.1 hC.2.1 hdg hne (kk H locs ls hP hD hS h)
theorem pg_ladd (hC : pv_C κ p R s m args meth c y cc nL Ts rt A) {x y v : Int64} (hdg : decode cc pc = .ok (.ladd, 1)) (hv : x + y = v) (kk : pv_G κ p l e R s m args below meth c Q A nL cells slots L f (pc + 1) vs (.long v :: st)) : pv_G κ p l e R s m args below meth c Q A nL cells slots L f pc vs (.long y :: .long x :: st) := fun H locs ls hP hD hS h => by subst hv; exact lv_ladd hC.1 hC.2.1 hdg (kk H locs ls hP hD hS h)
theorem pg_lsub (hC : pv_C κ p R s m args meth c y cc nL Ts rt A) {x y v : Int64} (hdg : decode cc pc = .ok (.lsub, 1)) (hv : x - y = v) (kk : pv_G κ p l e R s m args below meth c Q A nL cells slots L f (pc + 1) vs (.long v :: st)) : pv_G κ p l e R s m args below meth c Q A nL cells slots L f pc vs (.long y :: .long x :: st) := fun H locs ls hP hD hS h => by subst hv; exact lv_lsub hC.1 hC.2.1 hdg (kk H locs ls hP hD hS h)
theorem pg_land (hC : pv_C κ p R s m args meth c y cc nL Ts rt A) {x y v : Int64} (hdg : decode cc pc = .ok (.land, 1)) (hv : x &&& y = v) (kk : pv_G κ p l e R s m args below meth c Q A nL cells slots L f (pc + 1) vs (.long v :: st)) : pv_G κ p l e R s m args below meth c Q A nL cells slots L f pc vs (.long y :: .long x :: st) := fun H locs ls hP hD hS h => by subst hv; exact lv_land hC.1 hC.2.1 hdg (kk H locs ls hP hD hS h)
theorem pg_lor (hC : pv_C κ p R s m args meth c y cc nL Ts rt A) {x y v : Int64} (hdg : decode cc pc = .ok (.lor, 1)) (hv : x ||| y = v) (kk : pv_G κ p l e R s m args below meth c Q A nL cells slots L f (pc + 1) vs (.long v :: st)) : pv_G κ p l e R s m args below meth c Q A nL cells slots L f pc vs (.long y :: .long x :: st) := fun H locs ls hP hD hS h => by subst hv; exact lv_lor hC.1 hC.2.1 hdg (kk H locs ls hP hD hS h)
theorem pg_lcmp (hC : pv_C κ p R s m args meth c y cc nL Ts rt A) {x y : Int64} (hdg : decode cc pc = .ok (.lcmp, 1)) (kk : pv_G κ p l e R s m args below meth c Q A nL cells slots L f (pc + 1) vs (.int (lg_cmp x y) :: st)) : pv_G κ p l e R s m args below meth c Q A nL cells slots L f pc vs (.long y :: .long x :: st) := fun H locs ls hP hD hS h => W.lcmp hC.1 hC.2.1 hdg (kk H locs ls hP hD hS h)
theorem pg_i2l (hC : pv_C κ p R s m args meth c y cc nL Ts rt A) {x : Int32} {v : Int64} (hdg : decode cc pc = .ok (.i2l, 1)) (hv : x.toInt64 = v) (kk : pv_G κ p l e R s m args below meth c Q A nL cells slots L f (pc + 1) vs (.long v :: st)) : pv_G κ p l e R s m args below meth c Q A nL cells slots L f pc vs (.int x :: st) := fun H locs ls hP hD hS h => lv_i2l hC.1 hC.2.1 hdg hv (kk H locs ls hP hD hS h)
theorem pg_l2i (hC : pv_C κ p R s m args meth c y cc nL Ts rt A) {x : Int64} {v : Int32} (hdg : decode cc pc = .ok (.l2i, 1)) (hv : x.toInt32 = v) (kk : pv_G κ p l e R s m args below meth c Q A nL cells slots L f (pc + 1) vs (.int v :: st)) : pv_G κ p l e R s m args below meth c Q A nL cells slots L f pc vs (.long x :: st) := fun H locs ls hP hD hS h => lv_l2i hC.1 hC.2.1 hdg hv (kk H locs ls hP hD hS h)
theorem pg_i2c (hC : pv_C κ p R s m args meth c y cc nL Ts rt A) {x : Int32} {v : Int32} (hdg : decode cc pc = .ok (.i2c, 1)) (hv : (x.toUInt32 % 65536).toInt32 = v) (kk : pv_G κ p l e R s m args below meth c Q A nL cells slots L f (pc + 1) vs (.int v :: st)) : pv_G κ p l e R s m args below meth c Q A nL cells slots L f pc vs (.int x :: st) := fun H locs ls hP hD hS h => lv_i2c hC.1 hC.2.1 hdg hv (kk H locs ls hP hD hS h)
theorem pg_lushr (hC : pv_C κ p R s m args meth c y cc nL Ts rt A) {x v : Int64} {y : Int32} (hdg : decode cc pc = .ok (.lushr, 1)) (hv : (x.toUInt64 >>> (y.toInt64.toUInt64 &&& Int64.toUInt64 63)).toInt64 = v) (kk : pv_G κ p l e R s m args below meth c Q A nL cells slots L f (pc + 1) vs (.long v :: st)) : pv_G κ p l e R s m args below meth c Q A nL cells slots L f pc vs (.int y :: .long x :: st) := fun H locs ls hP hD hS h => lv_lushr hC.1 hC.2.1 hdg hv (kk H locs ls hP hD hS h)
theorem pg_lshl (hC : pv_C κ p R s m args meth c y cc nL Ts rt A) {x v : Int64} {y : Int32} (hdg : decode cc pc = .ok (.lshl, 1)) (hv : x <<< (y.toInt64 &&& 63) = v) (kk : pv_G κ p l e R s m args below meth c Q A nL cells slots L f (pc + 1) vs (.long v :: st)) : pv_G κ p l e R s m args below meth c Q A nL cells slots L f pc vs (.int y :: .long x :: st) := fun H locs ls hP hD hS h => lv_lshl hC.1 hC.2.1 hdg hv (kk H locs ls hP hD hS h)
theorem pg_dup (hC : pv_C κ p R s m args meth c y cc nL Ts rt A) {va : Value} (hdg : decode cc pc = .ok (.dup, 1)) (hva : va.category = 1) (kk : pv_G κ p l e R s m args below meth c Q A nL cells slots L f (pc + 1) vs (va :: va :: st)) : pv_G κ p l e R s m args below meth c Q A nL cells slots L f pc vs (va :: st) := fun H locs ls hP hD hS h => lv_dup hC.1 hC.2.1 hdg hva (kk H locs ls hP hD hS h)
theorem pg_pop (hC : pv_C κ p R s m args meth c y cc nL Ts rt A) {va : Value} (hdg : decode cc pc = .ok (.pop, 1)) (hva : va.category = 1) (kk : pv_G κ p l e R s m args below meth c Q A nL cells slots L f (pc + 1) vs st) : pv_G κ p l e R s m args below meth c Q A nL cells slots L f pc vs (va :: st) := fun H locs ls hP hD hS h => lv_pop hC.1 hC.2.1 hdg hva (kk H locs ls hP hD hS h)
theorem pg_dup_x1 (hC : pv_C κ p R s m args meth c y cc nL Ts rt A) {va vb : Value} (hdg : decode cc pc = .ok (.dup_x1, 1)) (hva : va.category = 1) (hvb : vb.category = 1) (kk : pv_G κ p l e R s m args below meth c Q A nL cells slots L f (pc + 1) vs (va :: vb :: va :: st)) : pv_G κ p l e R s m args below meth c Q A nL cells slots L f pc vs (va :: vb :: st) := fun H locs ls hP hD hS h => lv_dup_x1 hC.1 hC.2.1 hdg hva hvb (kk H locs ls hP hD hS h)
theorem pg_dup2 (hC : pv_C κ p R s m args meth c y cc nL Ts rt A) {va vb : Value} (hdg : decode cc pc = .ok (.dup2, 1)) (hva : va.category = 1) (hvb : vb.category = 1) (kk : pv_G κ p l e R s m args below meth c Q A nL cells slots L f (pc + 1) vs (va :: vb :: va :: vb :: st)) : pv_G κ p l e R s m args below meth c Q A nL cells slots L f pc vs (va :: vb :: st) := fun H locs ls hP hD hS h => lv_dup2_11 hC.1 hC.2.1 hdg hva hvb (kk H locs ls hP hD hS h)
theorem pg_icmp_eq (hC : pv_C κ p R s m args meth c y cc nL Ts rt A) {x y : Int32} {off : Int} (tgt : Nat) (hdg : decode cc pc = .ok (.if_icmp .eq off, 3)) (ht : (pc : Int) + off = (tgt : Int)) (kt : x = y → pv_G κ p l e R s m args below meth c Q A nL cells slots L f tgt vs st) (kf : ¬ x = y → pv_G κ p l e R s m args below meth c Q A nL cells slots L f (pc + 3) vs st) : pv_G κ p l e R s m args below meth c Q A nL cells slots L f pc vs (.int y :: .int x :: st) := fun H locs ls hP hD hS h => lv_icmp_eq hC.1 hC.2.1 hdg ht (fun q => kt q H locs ls hP hD hS h) (fun q => kf q H locs ls hP hD hS h)
theorem pg_if_eq (hC : pv_C κ p R s m args meth c y cc nL Ts rt A) {x : Int32} {off : Int} (tgt : Nat) (hdg : decode cc pc = .ok (.ifCond .eq off, 3)) (ht : (pc : Int) + off = (tgt : Int)) (kt : x = 0 → pv_G κ p l e R s m args below meth c Q A nL cells slots L f tgt vs st) (kf : ¬ x = 0 → pv_G κ p l e R s m args below meth c Q A nL cells slots L f (pc + 3) vs st) : pv_G κ p l e R s m args below meth c Q A nL cells slots L f pc vs (.int x :: st) := fun H locs ls hP hD hS h => lv_if_eq hC.1 hC.2.1 hdg ht (fun q => kt q H locs ls hP hD hS h) (fun q => kf q H locs ls hP hD hS h)
theorem pg_icmp_ne (hC : pv_C κ p R s m args meth c y cc nL Ts rt A) {x y : Int32} {off : Int} (tgt : Nat) (hdg : decode cc pc = .ok (.if_icmp .ne off, 3)) (ht : (pc : Int) + off = (tgt : Int)) (kt : ¬ x = y → pv_G κ p l e R s m args below meth c Q A nL cells slots L f tgt vs st) (kf : x = y → pv_G κ p l e R s m args below meth c Q A nL cells slots L f (pc + 3) vs st) : pv_G κ p l e R s m args below meth c Q A nL cells slots L f pc vs (.int y :: .int x :: st) := fun H locs ls hP hD hS h => lv_icmp_ne hC.1 hC.2.1 hdg ht (fun q => kt q H locs ls hP hD hS h) (fun q => kf q H locs ls hP hD hS h)
theorem pg_if_ne (hC : pv_C κ p R s m args meth c y cc nL Ts rt A) {x : Int32} {off : Int} (tgt : Nat) (hdg : decode cc pc = .ok (.ifCond .ne off, 3)) (ht : (pc : Int) + off = (tgt : Int)) (kt : ¬ x = 0 → pv_G κ p l e R s m args below meth c Q A nL cells slots L f tgt vs st) (kf : x = 0 → pv_G κ p l e R s m args below meth c Q A nL cells slots L f (pc + 3) vs st) : pv_G κ p l e R s m args below meth c Q A nL cells slots L f pc vs (.int x :: st) := fun H locs ls hP hD hS h => lv_if_ne hC.1 hC.2.1 hdg ht (fun q => kt q H locs ls hP hD hS h) (fun q => kf q H locs ls hP hD hS h)
theorem pg_icmp_lt (hC : pv_C κ p R s m args meth c y cc nL Ts rt A) {x y : Int32} {off : Int} (tgt : Nat) (hdg : decode cc pc = .ok (.if_icmp .lt off, 3)) (ht : (pc : Int) + off = (tgt : Int)) (kt : x < y → pv_G κ p l e R s m args below meth c Q A nL cells slots L f tgt vs st) (kf : ¬ x < y → pv_G κ p l e R s m args below meth c Q A nL cells slots L f (pc + 3) vs st) : pv_G κ p l e R s m args below meth c Q A nL cells slots L f pc vs (.int y :: .int x :: st) := fun H locs ls hP hD hS h => lv_icmp_lt hC.1 hC.2.1 hdg ht (fun q => kt q H locs ls hP hD hS h) (fun q => kf q H locs ls hP hD hS h)
theorem pg_if_lt (hC : pv_C κ p R s m args meth c y cc nL Ts rt A) {x : Int32} {off : Int} (tgt : Nat) (hdg : decode cc pc = .ok (.ifCond .lt off, 3)) (ht : (pc : Int) + off = (tgt : Int)) (kt : x < 0 → pv_G κ p l e R s m args below meth c Q A nL cells slots L f tgt vs st) (kf : ¬ x < 0 → pv_G κ p l e R s m args below meth c Q A nL cells slots L f (pc + 3) vs st) : pv_G κ p l e R s m args below meth c Q A nL cells slots L f pc vs (.int x :: st) := fun H locs ls hP hD hS h => lv_if_lt hC.1 hC.2.1 hdg ht (fun q => kt q H locs ls hP hD hS h) (fun q => kf q H locs ls hP hD hS h)
theorem pg_icmp_ge (hC : pv_C κ p R s m args meth c y cc nL Ts rt A) {x y : Int32} {off : Int} (tgt : Nat) (hdg : decode cc pc = .ok (.if_icmp .ge off, 3)) (ht : (pc : Int) + off = (tgt : Int)) (kt : y ≤ x → pv_G κ p l e R s m args below meth c Q A nL cells slots L f tgt vs st) (kf : ¬ y ≤ x → pv_G κ p l e R s m args below meth c Q A nL cells slots L f (pc + 3) vs st) : pv_G κ p l e R s m args below meth c Q A nL cells slots L f pc vs (.int y :: .int x :: st) := fun H locs ls hP hD hS h => lv_icmp_ge hC.1 hC.2.1 hdg ht (fun q => kt q H locs ls hP hD hS h) (fun q => kf q H locs ls hP hD hS h)
theorem pg_if_ge (hC : pv_C κ p R s m args meth c y cc nL Ts rt A) {x : Int32} {off : Int} (tgt : Nat) (hdg : decode cc pc = .ok (.ifCond .ge off, 3)) (ht : (pc : Int) + off = (tgt : Int)) (kt : 0 ≤ x → pv_G κ p l e R s m args below meth c Q A nL cells slots L f tgt vs st) (kf : ¬ 0 ≤ x → pv_G κ p l e R s m args below meth c Q A nL cells slots L f (pc + 3) vs st) : pv_G κ p l e R s m args below meth c Q A nL cells slots L f pc vs (.int x :: st) := fun H locs ls hP hD hS h => lv_if_ge hC.1 hC.2.1 hdg ht (fun q => kt q H locs ls hP hD hS h) (fun q => kf q H locs ls hP hD hS h)
theorem pg_icmp_gt (hC : pv_C κ p R s m args meth c y cc nL Ts rt A) {x y : Int32} {off : Int} (tgt : Nat) (hdg : decode cc pc = .ok (.if_icmp .gt off, 3)) (ht : (pc : Int) + off = (tgt : Int)) (kt : y < x → pv_G κ p l e R s m args below meth c Q A nL cells slots L f tgt vs st) (kf : ¬ y < x → pv_G κ p l e R s m args below meth c Q A nL cells slots L f (pc + 3) vs st) : pv_G κ p l e R s m args below meth c Q A nL cells slots L f pc vs (.int y :: .int x :: st) := fun H locs ls hP hD hS h => lv_icmp_gt hC.1 hC.2.1 hdg ht (fun q => kt q H locs ls hP hD hS h) (fun q => kf q H locs ls hP hD hS h)
theorem pg_if_gt (hC : pv_C κ p R s m args meth c y cc nL Ts rt A) {x : Int32} {off : Int} (tgt : Nat) (hdg : decode cc pc = .ok (.ifCond .gt off, 3)) (ht : (pc : Int) + off = (tgt : Int)) (kt : 0 < x → pv_G κ p l e R s m args below meth c Q A nL cells slots L f tgt vs st) (kf : ¬ 0 < x → pv_G κ p l e R s m args below meth c Q A nL cells slots L f (pc + 3) vs st) : pv_G κ p l e R s m args below meth c Q A nL cells slots L f pc vs (.int x :: st) := fun H locs ls hP hD hS h => lv_if_gt hC.1 hC.2.1 hdg ht (fun q => kt q H locs ls hP hD hS h) (fun q => kf q H locs ls hP hD hS h)
theorem pg_icmp_le (hC : pv_C κ p R s m args meth c y cc nL Ts rt A) {x y : Int32} {off : Int} (tgt : Nat) (hdg : decode cc pc = .ok (.if_icmp .le off, 3)) (ht : (pc : Int) + off = (tgt : Int)) (kt : x ≤ y → pv_G κ p l e R s m args below meth c Q A nL cells slots L f tgt vs st) (kf : ¬ x ≤ y → pv_G κ p l e R s m args below meth c Q A nL cells slots L f (pc + 3) vs st) : pv_G κ p l e R s m args below meth c Q A nL cells slots L f pc vs (.int y :: .int x :: st) := fun H locs ls hP hD hS h => lv_icmp_le hC.1 hC.2.1 hdg ht (fun q => kt q H locs ls hP hD hS h) (fun q => kf q H locs ls hP hD hS h)
theorem pg_if_le (hC : pv_C κ p R s m args meth c y cc nL Ts rt A) {x : Int32} {off : Int} (tgt : Nat) (hdg : decode cc pc = .ok (.ifCond .le off, 3)) (ht : (pc : Int) + off = (tgt : Int)) (kt : x ≤ 0 → pv_G κ p l e R s m args below meth c Q A nL cells slots L f tgt vs st) (kf : ¬ x ≤ 0 → pv_G κ p l e R s m args below meth c Q A nL cells slots L f (pc + 3) vs st) : pv_G κ p l e R s m args below meth c Q A nL cells slots L f pc vs (.int x :: st) := fun H locs ls hP hD hS h => lv_if_le hC.1 hC.2.1 hdg ht (fun q => kt q H locs ls hP hD hS h) (fun q => kf q H locs ls hP hD hS h)
theorem pg_icmp_eqN (hC : pv_C κ p R s m args meth c y cc nL Ts rt A) {x y : Int32} {off : Int} (tgt : Nat) (hdg : decode cc pc = .ok (.if_icmp .eq off, 3)) (ht : (pc : Int) + off = (tgt : Int)) (a b : Nat) (hx : x = nI a) (hy : y = nI b) (ha : a < 2 ^ 31) (hb : b < 2 ^ 31) (kt : a = b → pv_G κ p l e R s m args below meth c Q A nL cells slots L f tgt vs st) (kf : ¬ a = b → pv_G κ p l e R s m args below meth c Q A nL cells slots L f (pc + 3) vs st) : pv_G κ p l e R s m args below meth c Q A nL cells slots L f pc vs (.int y :: .int x :: st) := by
  subst hx; subst hy
  exact pg_icmp_eq hC tgt hdg ht (fun q => kt ((nI_eq ha hb).mp q)) (fun q => kf (fun z => q ((nI_eq ha hb).mpr z)))
theorem pg_icmp_neN (hC : pv_C κ p R s m args meth c y cc nL Ts rt A) {x y : Int32} {off : Int} (tgt : Nat) (hdg : decode cc pc = .ok (.if_icmp .ne off, 3)) (ht : (pc : Int) + off = (tgt : Int)) (a b : Nat) (hx : x = nI a) (hy : y = nI b) (ha : a < 2 ^ 31) (hb : b < 2 ^ 31) (kt : ¬ a = b → pv_G κ p l e R s m args below meth c Q A nL cells slots L f tgt vs st) (kf : a = b → pv_G κ p l e R s m args below meth c Q A nL cells slots L f (pc + 3) vs st) : pv_G κ p l e R s m args below meth c Q A nL cells slots L f pc vs (.int y :: .int x :: st) := by
  subst hx; subst hy
  exact pg_icmp_ne hC tgt hdg ht (fun q => kt (fun z => q ((nI_eq ha hb).mpr z))) (fun q => kf ((nI_eq ha hb).mp q))
theorem pg_icmp_ltN (hC : pv_C κ p R s m args meth c y cc nL Ts rt A) {x y : Int32} {off : Int} (tgt : Nat) (hdg : decode cc pc = .ok (.if_icmp .lt off, 3)) (ht : (pc : Int) + off = (tgt : Int)) (a b : Nat) (hx : x = nI a) (hy : y = nI b) (ha : a < 2 ^ 31) (hb : b < 2 ^ 31) (kt : a < b → pv_G κ p l e R s m args below meth c Q A nL cells slots L f tgt vs st) (kf : b ≤ a → pv_G κ p l e R s m args below meth c Q A nL cells slots L f (pc + 3) vs st) : pv_G κ p l e R s m args below meth c Q A nL cells slots L f pc vs (.int y :: .int x :: st) := by
  subst hx; subst hy
  exact pg_icmp_lt hC tgt hdg ht (fun q => kt ((nI_ltI ha hb).mp q)) (fun q => kf (Nat.le_of_not_lt (fun z => q ((nI_ltI ha hb).mpr z))))
theorem pg_icmp_geN (hC : pv_C κ p R s m args meth c y cc nL Ts rt A) {x y : Int32} {off : Int} (tgt : Nat) (hdg : decode cc pc = .ok (.if_icmp .ge off, 3)) (ht : (pc : Int) + off = (tgt : Int)) (a b : Nat) (hx : x = nI a) (hy : y = nI b) (ha : a < 2 ^ 31) (hb : b < 2 ^ 31) (kt : b ≤ a → pv_G κ p l e R s m args below meth c Q A nL cells slots L f tgt vs st) (kf : a < b → pv_G κ p l e R s m args below meth c Q A nL cells slots L f (pc + 3) vs st) : pv_G κ p l e R s m args below meth c Q A nL cells slots L f pc vs (.int y :: .int x :: st) := by
  subst hx; subst hy
  exact pg_icmp_ge hC tgt hdg ht (fun q => kt ((nI_leI hb ha).mp q)) (fun q => kf (Nat.lt_of_not_le (fun z => q ((nI_leI hb ha).mpr z))))
theorem pg_icmp_gtN (hC : pv_C κ p R s m args meth c y cc nL Ts rt A) {x y : Int32} {off : Int} (tgt : Nat) (hdg : decode cc pc = .ok (.if_icmp .gt off, 3)) (ht : (pc : Int) + off = (tgt : Int)) (a b : Nat) (hx : x = nI a) (hy : y = nI b) (ha : a < 2 ^ 31) (hb : b < 2 ^ 31) (kt : b < a → pv_G κ p l e R s m args below meth c Q A nL cells slots L f tgt vs st) (kf : a ≤ b → pv_G κ p l e R s m args below meth c Q A nL cells slots L f (pc + 3) vs st) : pv_G κ p l e R s m args below meth c Q A nL cells slots L f pc vs (.int y :: .int x :: st) := by
  subst hx; subst hy
  exact pg_icmp_gt hC tgt hdg ht (fun q => kt ((nI_ltI hb ha).mp q)) (fun q => kf (Nat.le_of_not_lt (fun z => q ((nI_ltI hb ha).mpr z))))
theorem pg_icmp_leN (hC : pv_C κ p R s m args meth c y cc nL Ts rt A) {x y : Int32} {off : Int} (tgt : Nat) (hdg : decode cc pc = .ok (.if_icmp .le off, 3)) (ht : (pc : Int) + off = (tgt : Int)) (a b : Nat) (hx : x = nI a) (hy : y = nI b) (ha : a < 2 ^ 31) (hb : b < 2 ^ 31) (kt : a ≤ b → pv_G κ p l e R s m args below meth c Q A nL cells slots L f tgt vs st) (kf : b < a → pv_G κ p l e R s m args below meth c Q A nL cells slots L f (pc + 3) vs st) : pv_G κ p l e R s m args below meth c Q A nL cells slots L f pc vs (.int y :: .int x :: st) := by
  subst hx; subst hy
  exact pg_icmp_le hC tgt hdg ht (fun q => kt ((nI_leI ha hb).mp q)) (fun q => kf (Nat.lt_of_not_le (fun z => q ((nI_leI ha hb).mpr z))))
theorem pg_goto (hC : pv_C κ p R s m args meth c y cc nL Ts rt A) {off : Int} (tgt : Nat) (hdg : decode cc pc = .ok (.goto off, 3)) (ht : (pc : Int) + off = (tgt : Int)) (kk : pv_G κ p l e R s m args below meth c Q A nL cells slots L f tgt vs st) : pv_G κ p l e R s m args below meth c Q A nL cells slots L f pc vs st := fun H locs ls hP hD hS h => lv_goto hC.1 hC.2.1 hdg ht (kk H locs ls hP hD hS h)
theorem pg_tabIn (hC : pv_C κ p R s m args meth c y cc nL Ts rt A) {dflt lo hi : Int} {offs : Array Int} {len : Nat} {x : Int32} {off : Int} (tgt : Nat) (hdg : decode cc pc = .ok (.tableswitch dflt lo hi offs, len)) (h1 : ¬ x.toInt < lo) (h2 : ¬ hi < x.toInt) (ho : offs[(x.toInt - lo).toNat]? = some off) (ht : (pc : Int) + off = (tgt : Int)) (kk : pv_G κ p l e R s m args below meth c Q A nL cells slots L f tgt vs st) : pv_G κ p l e R s m args below meth c Q A nL cells slots L f pc vs (.int x :: st) := fun H locs ls hP hD hS h => lv_tableIn hC.1 hC.2.1 hdg h1 h2 ho ht (kk H locs ls hP hD hS h)
theorem pg_tabOut (hC : pv_C κ p R s m args meth c y cc nL Ts rt A) {dflt lo hi : Int} {offs : Array Int} {len : Nat} {x : Int32} (tgt : Nat) (hdg : decode cc pc = .ok (.tableswitch dflt lo hi offs, len)) (h1 : x.toInt < lo ∨ hi < x.toInt) (ht : (pc : Int) + dflt = (tgt : Int)) (kk : pv_G κ p l e R s m args below meth c Q A nL cells slots L f tgt vs st) : pv_G κ p l e R s m args below meth c Q A nL cells slots L f pc vs (.int x :: st) := fun H locs ls hP hD hS h => lv_tableOut hC.1 hC.2.1 hdg h1 ht (kk H locs ls hP hD hS h)
theorem pv_at {D : va_G} {a : Nat} {H : Heap} {E : va_E} (hL : a ∈ L) (hf : f a = E) : ∃ k : Nat, (va_pl L f)[k]? = some (a, E) := by
  obtain ⟨k, hk⟩ := va_pl_get (X := []) (f := f) hL
  exact ⟨k, by rw [← hf]; exact hk⟩
theorem pv_set {a k : Nat} {E E' : va_E} (hD : va_D A (va_pl L f)) (hL : a ∈ L) (hf : f a = E) (hk : (va_pl L f)[k]? = some (a, E)) : (va_pl L f).set k (a, E') = va_pl L (va_up f a E') := va_pl_set (X := []) hD hL (by rw [hf]; exact hk)
theorem pg_get (hC : pv_C κ p R s m args meth c y cc nL Ts rt A) {C2 : String} {T : u_T} {N ci index a : Nat} {fs : List Value} {v : Value} (hdg : decode cc pc = .ok (.getfield index, 3)) (k : Nat) (hin : ∀ w ∈ u_ws C2 T N, w ∈ Ts) (hlink : Cond.fieldLink y.cls index C2 (T k).2.1 (T k).2.2.1 ∈ Ts) (hL : a ∈ L) (hf : f a = .inr (ci, fs)) (hcl : vwCl[ci]? = some (C2, T, N)) (hk : k < N) (hT : (T k).1 = C2) (hv : fs[k]? = some v) (kk : pv_G κ p l e R s m args below meth c Q A nL cells slots L f (pc + 3) vs (v :: st)) : pv_G κ p l e R s m args below meth c Q A nL cells slots L f pc vs (.ref a :: st) := fun H locs ls hP hD hS h => by
  obtain ⟨q0, hq⟩ := pv_at (D := κ.1) (H := H) hL hf
  exact va_get hC.1 hC.2.1 hC.2.2.2.2.1 hin hC.2.2.2.1 hC.2.2.2.2.2.2.2.1 hP q0 hq hcl k hk (hC.2.2.2.2.1 _ hlink) (fun x hx => by rw [hT] at hx; exact hx) hv hdg (kk H locs ls hP hD hS h)
theorem pg_put (hC : pv_C κ p R s m args meth c y cc nL Ts rt A) {C2 : String} {T : u_T} {N ci index a : Nat} {fs : List Value} {v : Value} {ty : FieldType} (hdg : decode cc pc = .ok (.putfield index, 3)) (k : Nat) (hin : ∀ w ∈ u_ws C2 T N, w ∈ Ts) (ty0 : Nat → FieldType) (hty : ∀ k, k < N → parseFieldDescriptor (T k).2.2.1 = some (ty0 k)) (hnm : ∀ a, a < N → ∀ b, b < N → a ≠ b → (T a).2.1 ≠ (T b).2.1) (hlink : Cond.fieldLink y.cls index C2 (T k).2.1 (T k).2.2.1 ∈ Ts) (hL : a ∈ L) (hf : f a = .inr (ci, fs)) (hcl : vwCl[ci]? = some (C2, T, N)) (hk : k < N) (hT : (T k).1 = C2) (hfin : (T k).2.2.2 = false) (hd : parseFieldDescriptor (T k).2.2.1 = some ty) (hn : narrow ty v = v) (hfit : fits ty v = true) (hl : k < fs.length) (kk : pv_G κ p l e R s m args below meth c Q A nL cells slots L (va_up f a (.inr (ci, fs.set k v))) (pc + 3) vs st) : pv_G κ p l e R s m args below meth c Q A nL cells slots L f pc vs (v :: .ref a :: st) := fun H locs ls hP hD hS h => by
  obtain ⟨q0, hq⟩ := pv_at (D := κ.1) (H := H) hL hf
  refine va_put hC.1 hC.2.1 hC.2.2.2.2.1 hin ty0 hty hnm hC.2.2.2.1 hC.2.2.2.2.2.2.2.1 hP hD hS q0 hq hcl k hk (hC.2.2.2.2.1 _ hlink) (fun x hx => by rw [hT] at hx; exact hx) hfin hd hn hfit hl hdg (fun H1 locs1 hP1 hD1 hS1 => ?_)
  rw [pv_set hD hL hf hq] at hP1 hD1
  exact kk H1 locs1 ls hP1 hD1 hS1 h
theorem pg_putF (hC : pv_C κ p R s m args meth c y cc nL Ts rt A) {C2 : String} {T : u_T} {N ci index a : Nat} {fs : List Value} {v : Value} {ty : FieldType} (hdg : decode cc pc = .ok (.putfield index, 3)) (k : Nat) (hin : ∀ w ∈ u_ws C2 T N, w ∈ Ts) (ty0 : Nat → FieldType) (hty : ∀ k, k < N → parseFieldDescriptor (T k).2.2.1 = some (ty0 k)) (hnm : ∀ a, a < N → ∀ b, b < N → a ≠ b → (T a).2.1 ≠ (T b).2.1) (hlink : Cond.fieldLink y.cls index C2 (T k).2.1 (T k).2.2.1 ∈ Ts) (hL : a ∈ L) (hf : f a = .inr (ci, fs)) (hcl : vwCl[ci]? = some (C2, T, N)) (hk : k < N) (hT : (T k).1 = C2) (hfin : (T k).2.2.2 = true) (hini : y.name = "<init>") (hdecl : (T k).1 = y.cls) (hd : parseFieldDescriptor (T k).2.2.1 = some ty) (hn : narrow ty v = v) (hfit : fits ty v = true) (hl : k < fs.length) (kk : pv_G κ p l e R s m args below meth c Q A nL cells slots L (va_up f a (.inr (ci, fs.set k v))) (pc + 3) vs st) : pv_G κ p l e R s m args below meth c Q A nL cells slots L f pc vs (v :: .ref a :: st) := fun H locs ls hP hD hS h => by
  obtain ⟨q0, hq⟩ := pv_at (D := κ.1) (H := H) hL hf
  refine va_putF hC.1 hC.2.1 hC.2.2.2.2.1 hin ty0 hty hnm hC.2.2.2.1 hC.2.2.2.2.2.2.2.1 hP hD hS q0 hq hcl k hk (hC.2.2.2.2.1 _ hlink) (fun x hx => by rw [hT] at hx; exact hx) hfin (hC.2.2.2.2.2.2.2.2.2.2.trans hini) hdecl hd hn hfit hl hdg (fun H1 locs1 hP1 hD1 hS1 => ?_)
  rw [pv_set hD hL hf hq] at hP1 hD1
  exact kk H1 locs1 ls hP1 hD1 hS1 h
theorem pg_iald (hC : pv_C κ p R s m args meth c y cc nL Ts rt A) {a n : Nat} {row : Nat → Int32} {i : Int32} {v : Int32} (hdg : decode cc pc = .ok (.iaload, 1)) (j : Nat) (hL : a ∈ L) (hf : f a = .inl (κ.2.1 1, n, .inl row)) (hi : i = nI j) (hj : j < n) (hn : n < 2 ^ 31) (hv : row j = v) (kk : pv_G κ p l e R s m args below meth c Q A nL cells slots L f (pc + 1) vs (.int v :: st)) : pv_G κ p l e R s m args below meth c Q A nL cells slots L f pc vs (.int i :: .ref a :: st) := fun H locs ls hP hD hS h => by
  obtain ⟨q0, hq⟩ := pv_at (D := κ.1) (H := H) hL hf
  subst hi; subst hv
  refine va_iald hC.1 hC.2.1 hC.2.2.2.2.2.2.2.1 hP q0 1 hq rfl (vp_in_nI hj hn) hdg ?_
  rw [nI_clamp (Nat.lt_trans hj hn)]
  exact kk H locs ls hP hD hS h
theorem pg_cald (hC : pv_C κ p R s m args meth c y cc nL Ts rt A) {a n : Nat} {row : Nat → Int32} {i : Int32} {v : Int32} (hdg : decode cc pc = .ok (.caload, 1)) (j : Nat) (hL : a ∈ L) (hf : f a = .inl (κ.2.1 0, n, .inl row)) (hi : i = nI j) (hj : j < n) (hn : n < 2 ^ 31) (hv : row j = v) (kk : pv_G κ p l e R s m args below meth c Q A nL cells slots L f (pc + 1) vs (.int v :: st)) : pv_G κ p l e R s m args below meth c Q A nL cells slots L f pc vs (.int i :: .ref a :: st) := fun H locs ls hP hD hS h => by
  obtain ⟨q0, hq⟩ := pv_at (D := κ.1) (H := H) hL hf
  subst hi; subst hv
  refine va_cald hC.1 hC.2.1 hC.2.2.2.2.2.2.2.1 hP q0 0 hq rfl (vp_in_nI hj hn) hdg ?_
  rw [nI_clamp (Nat.lt_trans hj hn)]
  exact kk H locs ls hP hD hS h
theorem pg_zald (hC : pv_C κ p R s m args meth c y cc nL Ts rt A) {a n : Nat} {row : Nat → Int32} {i : Int32} {v : Int32} (hdg : decode cc pc = .ok (.baload, 1)) (j : Nat) (hL : a ∈ L) (hf : f a = .inl (κ.2.1 2, n, .inl row)) (hi : i = nI j) (hj : j < n) (hn : n < 2 ^ 31) (hv : row j = v) (kk : pv_G κ p l e R s m args below meth c Q A nL cells slots L f (pc + 1) vs (.int v :: st)) : pv_G κ p l e R s m args below meth c Q A nL cells slots L f pc vs (.int i :: .ref a :: st) := fun H locs ls hP hD hS h => by
  obtain ⟨q0, hq⟩ := pv_at (D := κ.1) (H := H) hL hf
  subst hi; subst hv
  refine va_zald hC.1 hC.2.1 hC.2.2.2.2.2.2.2.1 hP q0 2 hq rfl (vp_in_nI hj hn) hdg ?_
  rw [nI_clamp (Nat.lt_trans hj hn)]
  exact kk H locs ls hP hD hS h
theorem pg_iast (hC : pv_C κ p R s m args meth c y cc nL Ts rt A) {a n : Nat} {row : Nat → Int32} {i x : Int32} (hdg : decode cc pc = .ok (.iastore, 1)) (j : Nat) (hL : a ∈ L) (hf : f a = .inl (κ.2.1 1, n, .inl row)) (hi : i = nI j) (hj : j < n) (hn : n < 2 ^ 31) (kk : pv_G κ p l e R s m args below meth c Q A nL cells slots L (va_up f a (.inl (κ.2.1 1, n, .inl (va_up row j x)))) (pc + 1) vs st) : pv_G κ p l e R s m args below meth c Q A nL cells slots L f pc vs (.int x :: .int i :: .ref a :: st) := fun H locs ls hP hD hS h => by
  obtain ⟨q0, hq⟩ := pv_at (D := κ.1) (H := H) hL hf
  subst hi
  refine va_iast hC.1 hC.2.1 hC.2.2.2.2.2.2.2.1 hP hD hS q0 1 hq rfl (vp_in_nI hj hn) hdg (fun H1 locs1 hP1 hD1 hS1 => ?_)
  rw [pv_set hD hL hf hq, nI_clamp (Nat.lt_trans hj hn)] at hP1 hD1
  exact kk H1 locs1 ls hP1 hD1 hS1 h
theorem pg_cast (hC : pv_C κ p R s m args meth c y cc nL Ts rt A) {a n : Nat} {row : Nat → Int32} {i x : Int32} (hdg : decode cc pc = .ok (.castore, 1)) (j : Nat) (hL : a ∈ L) (hf : f a = .inl (κ.2.1 0, n, .inl row)) (hi : i = nI j) (hj : j < n) (hn : n < 2 ^ 31) (hx : vp_nar .char x = x) (kk : pv_G κ p l e R s m args below meth c Q A nL cells slots L (va_up f a (.inl (κ.2.1 0, n, .inl (va_up row j x)))) (pc + 1) vs st) : pv_G κ p l e R s m args below meth c Q A nL cells slots L f pc vs (.int x :: .int i :: .ref a :: st) := fun H locs ls hP hD hS h => by
  obtain ⟨q0, hq⟩ := pv_at (D := κ.1) (H := H) hL hf
  subst hi
  refine va_cast hC.1 hC.2.1 hC.2.2.2.2.2.2.2.1 hP hD hS q0 0 hq rfl (vp_in_nI hj hn) hdg (fun H1 locs1 hP1 hD1 hS1 => ?_)
  rw [pv_set hD hL hf hq, nI_clamp (Nat.lt_trans hj hn)] at hP1 hD1
  rw [hx] at hP1 hD1
  exact kk H1 locs1 ls hP1 hD1 hS1 h
theorem pg_zast (hC : pv_C κ p R s m args meth c y cc nL Ts rt A) {a n : Nat} {row : Nat → Int32} {i x : Int32} (hdg : decode cc pc = .ok (.bastore, 1)) (j : Nat) (hL : a ∈ L) (hf : f a = .inl (κ.2.1 2, n, .inl row)) (hi : i = nI j) (hj : j < n) (hn : n < 2 ^ 31) (hx : vp_nar .boolean x = x) (kk : pv_G κ p l e R s m args below meth c Q A nL cells slots L (va_up f a (.inl (κ.2.1 2, n, .inl (va_up row j x)))) (pc + 1) vs st) : pv_G κ p l e R s m args below meth c Q A nL cells slots L f pc vs (.int x :: .int i :: .ref a :: st) := fun H locs ls hP hD hS h => by
  obtain ⟨q0, hq⟩ := pv_at (D := κ.1) (H := H) hL hf
  subst hi
  refine va_zast hC.1 hC.2.1 hC.2.2.2.2.2.2.2.1 hP hD hS q0 2 hq rfl (vp_in_nI hj hn) hdg (fun H1 locs1 hP1 hD1 hS1 => ?_)
  rw [pv_set hD hL hf hq, nI_clamp (Nat.lt_trans hj hn)] at hP1 hD1
  rw [hx] at hP1 hD1
  exact kk H1 locs1 ls hP1 hD1 hS1 h
theorem pg_aldq (hC : pv_C κ p R s m args meth c y cc nL Ts rt A) {a n b : Nat} {row : Nat → Option Nat} {i : Int32} (hdg : decode cc pc = .ok (.aaload, 1)) (j : Nat) (hL : a ∈ L) (hf : f a = .inl (κ.2.1 3, n, .inr (.inr (.inr (.inr row))))) (hi : i = nI j) (hj : j < n) (hn : n < 2 ^ 31) (hv : row j = some b) (kk : pv_G κ p l e R s m args below meth c Q A nL cells slots L f (pc + 1) vs (.ref b :: st)) : pv_G κ p l e R s m args below meth c Q A nL cells slots L f pc vs (.int i :: .ref a :: st) := fun H locs ls hP hD hS h => by
  obtain ⟨q0, hq⟩ := pv_at (D := κ.1) (H := H) hL hf
  subst hi
  refine va_aldq hC.1 hC.2.1 hC.2.2.2.2.2.2.2.1 hP q0 3 hq rfl (vp_in_nI hj hn) hdg ?_
  rw [nI_clamp (Nat.lt_trans hj hn), hv]
  exact kk H locs ls hP hD hS h
theorem pg_astq (hC : pv_C κ p R s m args meth c y cc nL Ts rt A) {a n b ci : Nat} {fs : List Value} {r : vw_C} {row : Nat → Option Nat} {i : Int32} (hdg : decode cc pc = .ok (.aastore, 1)) (j : Nat) (hL : a ∈ L) (hf : f a = .inl (κ.2.1 3, n, .inr (.inr (.inr (.inr row))))) (hLb : b ∈ L) (hfb : f b = .inr (ci, fs)) (hcl : vwCl[ci]? = some r) (hr : r.1 = "ExcuseTariffs$School") (hi : i = nI j) (hj : j < n) (hn : n < 2 ^ 31) (kk : pv_G κ p l e R s m args below meth c Q A nL cells slots L (va_up f a (.inl (κ.2.1 3, n, .inr (.inr (.inr (.inr (va_up row j (some b)))))))) (pc + 1) vs st) : pv_G κ p l e R s m args below meth c Q A nL cells slots L f pc vs (.ref b :: .int i :: .ref a :: st) := fun H locs ls hP hD hS h => by
  obtain ⟨q0, hq⟩ := pv_at (D := κ.1) (H := H) hL hf
  obtain ⟨q1, hq1⟩ := pv_at (D := κ.1) (H := H) hLb hfb
  subst hi
  refine va_astq hC.1 hC.2.1 hC.2.2.2.2.2.2.2.1 hP hD hS q0 3 q1 ci hq (by rw [hr]; rfl) hq1 hcl (vp_in_nI hj hn) hdg (fun H1 locs1 hP1 hD1 hS1 => ?_)
  rw [pv_set hD hL hf hq, nI_clamp (Nat.lt_trans hj hn)] at hP1 hD1
  exact kk H1 locs1 ls hP1 hD1 hS1 h
theorem pg_alen (hC : pv_C κ p R s m args meth c y cc nL Ts rt A) {a : Nat} {cA : ClassId} {x : vp_A} {ty : FieldType} {v : Int32} (hdg : decode cc pc = .ok (.arraylength, 1)) (t0 : Nat) (ht : (pv_tys κ)[t0]? = some (cA, ty)) (hL : a ∈ L) (hf : f a = .inl (cA, x)) (hv : Int32.ofNat x.1 = v) (kk : pv_G κ p l e R s m args below meth c Q A nL cells slots L f (pc + 1) vs (.int v :: st)) : pv_G κ p l e R s m args below meth c Q A nL cells slots L f pc vs (.ref a :: st) := fun H locs ls hP hD hS h => by
  obtain ⟨q0, hq⟩ := pv_at (D := κ.1) (H := H) hL hf
  exact va_alen hC.1 hC.2.1 hC.2.2.2.2.2.2.2.1 hP q0 t0 hq ht hv hdg (kk H locs ls hP hD hS h)
theorem pg_gets (hC : pv_C κ p R s m args meth c y cc nL Ts rt A) {n : String} {t : Nat} {g : Nat → Int32} {index : Nat} (hdg : decode cc pc = .ok (.getstatic index, 3)) (ht : pv_tb n t g A s) (hlink : Cond.fieldLink y.cls index "ExcuseTariffs" n "[I" ∈ Ts) (kk : pv_G κ p l e R s m args below meth c Q A nL cells slots L f (pc + 3) vs (.ref t :: st)) : pv_G κ p l e R s m args below meth c Q A nL cells slots L f pc vs st := fun H locs ls hP hD hS h => va_gets hC.1 hC.2.1 ht.1 hS hC.2.2.2.1 (hC.2.2.2.2.1 _ hlink) (fun _ q => q) hdg (kk H locs ls hP hD hS h)
theorem pg_getsN (hC : pv_C κ p R s m args meth c y cc nL Ts rt A) {n host : String} {t : Nat} {g : Nat → Int32} {index : Nat} (hdg : decode cc pc = .ok (.getstatic index, 3)) (ht : pv_tb n t g A s) (hlink : va_Nw (.fieldLinkNest y.cls index "ExcuseTariffs" n "[I" host) s) (kk : pv_G κ p l e R s m args below meth c Q A nL cells slots L f (pc + 3) vs (.ref t :: st)) : pv_G κ p l e R s m args below meth c Q A nL cells slots L f pc vs st := fun H locs ls hP hD hS h => va_getsN hC.1 hC.2.1 ht.1 hS hC.2.2.2.1 (va_Nw.use rfl hlink) (fun _ q => q) hdg (kk H locs ls hP hD hS h)
theorem pg_tald (hC : pv_C κ p R s m args meth c y cc nL Ts rt A) {n : String} {t : Nat} {g : Nat → Int32} {i v : Int32} (hdg : decode cc pc = .ok (.iaload, 1)) (j : Nat) (ht : pv_tb n t g A s) (hi : i = nI j) (hj : j < 5) (hv : g j = v) (kk : pv_G κ p l e R s m args below meth c Q A nL cells slots L f (pc + 1) vs (.int v :: st)) : pv_G κ p l e R s m args below meth c Q A nL cells slots L f pc vs (.int i :: .ref t :: st) := fun H locs ls hP hD hS h => by
  subst hi
  exact va_ti hC.1 hC.2.1 ht.2 hS (vp_in_nI hj (by decide)) (by rw [nI_clamp (by omega), hv]) hdg (kk H locs ls hP hD hS h)
theorem pg_tlen (hC : pv_C κ p R s m args meth c y cc nL Ts rt A) {n : String} {t : Nat} {g : Nat → Int32} {v : Int32} (hdg : decode cc pc = .ok (.arraylength, 1)) (ht : pv_tb n t g A s) (hv : Int32.ofNat 5 = v) (kk : pv_G κ p l e R s m args below meth c Q A nL cells slots L f (pc + 1) vs (.int v :: st)) : pv_G κ p l e R s m args below meth c Q A nL cells slots L f pc vs (.ref t :: st) := fun H locs ls hP hD hS h => va_tlen hC.1 hC.2.1 ht.2 hS hv hdg (kk H locs ls hP hD hS h)
theorem pg_mmax (hC : pv_C κ p R s m args meth c y cc nL Ts rt A) {index : Nat} {x y2 : Int32} (hdg : decode cc pc = .ok (.invokestatic index, 3)) (h1 : Cond.methodLink y.cls index Lib.Math.max.name ∈ Ts) (h2 : Cond.static Lib.Math.max.name ∈ Ts) (h3 : Cond.initialized "java/lang/Math" ∈ Ts) (h4 : Cond.code Lib.Math.max.name Lib.Math.max.code 2 (some .int) ∈ Ts) (hfr : 1 ≤ R.frames) (hlo : (st.map fun v => v.category).sum + 13 ≤ R.locals) (hc : cells ≤ R.cells) (hs : slots ≤ R.slots) (kk : pv_G κ p l e R s m args below meth c Q A nL cells slots L f (pc + 3) vs (.int (if x < y2 then y2 else x) :: st)) : pv_G κ p l e R s m args below meth c Q A nL cells slots L f pc vs (.int y2 :: .int x :: st) := fun H locs ls hP hD hS h => va_mmax hC.1 hC.2.1 (hC.2.2.1.trans h.1.symm) hC.2.2.2.1 (hC.2.2.2.2.1 _ h1) (hC.2.2.2.2.1 _ h2) (hC.2.2.2.2.1 _ h3) (hC.2.2.2.2.1 _ h4) hfr hlo hc hs hdg (kk H locs ls hP hD hS h)
theorem pg_mmin (hC : pv_C κ p R s m args meth c y cc nL Ts rt A) {index : Nat} {x y2 : Int32} (hdg : decode cc pc = .ok (.invokestatic index, 3)) (h1 : Cond.methodLink y.cls index Lib.Math.min.name ∈ Ts) (h2 : Cond.static Lib.Math.min.name ∈ Ts) (h3 : Cond.initialized "java/lang/Math" ∈ Ts) (h4 : Cond.code Lib.Math.min.name Lib.Math.min.code 2 (some .int) ∈ Ts) (hfr : 1 ≤ R.frames) (hlo : (st.map fun v => v.category).sum + 13 ≤ R.locals) (hc : cells ≤ R.cells) (hs : slots ≤ R.slots) (kk : pv_G κ p l e R s m args below meth c Q A nL cells slots L f (pc + 3) vs (.int (if y2 < x then y2 else x) :: st)) : pv_G κ p l e R s m args below meth c Q A nL cells slots L f pc vs (.int y2 :: .int x :: st) := fun H locs ls hP hD hS h => va_mmin hC.1 hC.2.1 (hC.2.2.1.trans h.1.symm) hC.2.2.2.1 (hC.2.2.2.2.1 _ h1) (hC.2.2.2.2.1 _ h2) (hC.2.2.2.2.1 _ h3) (hC.2.2.2.2.1 _ h4) hfr hlo hc hs hdg (kk H locs ls hP hD hS h)
theorem pg_objInit (hC : pv_C κ p R s m args meth c y cc nL Ts rt A) {index a : Nat} (hdg : decode cc pc = .ok (.invokespecial index, 3)) (h1 : Cond.methodLink y.cls index objectInit ∈ Ts) (h2 : Cond.instanceMethod objectInit ∈ Ts) (h3 : Cond.code objectInit ⟨#[0xb1]⟩ 1 none ∈ Ts) (hfr : 1 ≤ R.frames) (hlo : (st.map fun v => v.category).sum + 12 ≤ R.locals) (kk : pv_G κ p l e R s m args below meth c Q A nL cells slots L f (pc + 3) vs st) : pv_G κ p l e R s m args below meth c Q A nL cells slots L f pc vs (.ref a :: st) := fun H locs ls hP hD hS h => W.objInit hC.1 hC.2.1 hC.2.2.2.1 (hC.2.2.2.2.1 _ h1) (hC.2.2.2.2.1 _ h2) (hC.2.2.2.2.1 _ h3) rfl (by rw [hC.2.2.1]; exact h.1) rfl hdg hfr (by show 2 * 0 + _ + 12 ≤ _; omega) (W.eq (g2 := F0 m (pc + 3) ls st) rfl (kk H locs ls hP hD hS h))
theorem pg_iret (hC : pv_C κ p R s m args meth c y cc nL Ts rt A) {v : Int32} {post : Int32 → List Nat × (Nat → va_E) → Prop} (hdg : decode cc pc = .ok (.ireturn, 1)) (hr : rt = some .int) (hpost : post v (L, f)) : pv_G κ p l e R s m args below meth c (MQ below (va_Qi post (pv_B κ A) A) args s cells slots A) A nL cells slots L f pc vs [.int v] := fun H locs ls hP hD hS h => W.iret hC.1 hC.2.1 (hC.2.2.2.2.2.1.trans hr) (fun t ht hW => ⟨⟨v, (L, f), rfl, hpost, by rw [ht]; exact hP, va_K.moved hW.alike hC.2.2.2.2.2.2.2.1, hD⟩, hS.F ht⟩) hS.2.2 hdg hC.2.2.2.2.2.2.1
theorem pg_zret (hC : pv_C κ p R s m args meth c y cc nL Ts rt A) {v : Int32} {post : Int32 → List Nat × (Nat → va_E) → Prop} (hdg : decode cc pc = .ok (.ireturn, 1)) {ty : FieldType} (hr : rt = some ty) (hn : narrow ty (.int v) = .int v) (hpost : post v (L, f)) : pv_G κ p l e R s m args below meth c (MQ below (va_Qi post (pv_B κ A) A) args s cells slots A) A nL cells slots L f pc vs [.int v] := fun H locs ls hP hD hS h => W.zret hC.1 hC.2.1 (hC.2.2.2.2.2.1.trans hr) hn (fun t ht hW => ⟨⟨v, (L, f), rfl, hpost, by rw [ht]; exact hP, va_K.moved hW.alike hC.2.2.2.2.2.2.2.1, hD⟩, hS.F ht⟩) hS.2.2 hdg hC.2.2.2.2.2.2.1
theorem pg_vret (hC : pv_C κ p R s m args meth c y cc nL Ts rt A) {post : List Nat × (Nat → va_E) → Prop} (hdg : decode cc pc = .ok (.return_, 1)) (hr : rt = none) (hpost : post (L, f)) : pv_G κ p l e R s m args below meth c (MQ below (va_Qv post (pv_B κ A) A) args s cells slots A) A nL cells slots L f pc vs [] := fun H locs ls hP hD hS h => W.vret hC.1 hC.2.1 (hC.2.2.2.2.2.1.trans hr) (fun t ht hW => ⟨⟨(L, f), rfl, hpost, by rw [ht]; exact hP, va_K.moved hW.alike hC.2.2.2.2.2.2.2.1, hD⟩, hS.F ht⟩) hS.2.2 hdg hC.2.2.2.2.2.2.1
theorem pv_A_in {H : Heap} {locs : List Loc} (hA : ∀ q : Nat, s.heap.size ≤ q → A q) (hD : va_D A (va_pl L f)) (hS : va_S A s.heap H locs) : ∀ q : Nat, va_A (va_pl L f) H.size q → A q := by
  intro q h
  rcases h with ⟨k, e, h⟩ | h
  · exact hD.2 k (q, e) h
  · exact hA q (Nat.le_trans hS.1 h)
theorem pv_blind {sz : Nat} {av : List Value} : FrameBlind (va_Pc av (pv_P κ L f sz)) := by
  intro a U g mk hh
  obtain ⟨h1, h2, h3, h4, h5, h6⟩ := hh
  obtain ⟨⟨t1, t2, t3⟩, t4, t5⟩ := h6
  have e : (U.calling g mk a).vm = U.vm := rfl
  refine ⟨h1, h2, h3, va_K.moved (u := U) (U := U.calling g mk a) (Vm.Alike.refl U.vm) h4, h5, ⟨?_, ?_, ?_⟩, pv_N.same (U := U.calling g mk a) rfl t4, va_AO.moved (Vm.Alike.refl U.vm) t5⟩
  · exact t1.go (U := U.calling g mk a) (Vm.Alike.refl U.vm) (fun _ _ _ => rfl) (fun _ _ h => h)
  · exact t2.go (U := U.calling g mk a) (Vm.Alike.refl U.vm) (fun _ _ _ => rfl) (fun _ _ h => h)
  · exact t3.go (U := U.calling g mk a) (Vm.Alike.refl U.vm) (fun _ _ _ => rfl) (fun _ _ h => h)
theorem pv_pre {U : State} {H : Heap} {locs : List Loc} (hA : ∀ q : Nat, s.heap.size ≤ q → A q) (hK : va_K κ.1 vwCl (pv_tys κ) s) (hT : pv_T κ A s) (hP : va_P κ.1 vwCl (va_pl L f) H) (hD : va_D A (va_pl L f)) (hS : va_S A s.heap H locs) (hU : U.heap = H) (hW : s.WarmedH U.vm) : pv_P κ L f H.size U := by
  obtain ⟨⟨t1, t2, t3⟩, t4, t5⟩ := hT
  have go : ∀ {n : String} {t : Nat} {g : Nat → Int32}, pv_tb n t g A s → pv_tb n t g (va_A (va_pl L f) H.size) U := fun h => h.go hW.alike (fun a h1 h2 => by rw [hU]; exact hS.2.1 a h1 h2) (fun q _ h => pv_A_in hA hD hS q h)
  exact ⟨by rw [hU], by rw [hU]; exact hP, va_K.moved hW.alike hK, hD.weaken (fun _ _ _ _ => trivial), ⟨go t1, go t2, go t3⟩, t4.warm hW, t5.moved hW.alike⟩
theorem pg_callVi (hC : pv_C κ p R s m args meth c y cc nL Ts rt A) {y2 : MethodName} {ws2 : List Cond} {rm2 : Room} {bytes : ByteArray} {maxL : Nat} {ret : Option FieldType} {n index ci b : Nat} {C2 : String} {fs : List Value} {r0 : vw_C} {As rest : List Value} {mc ms : Nat} {post : Int32 → List Nat × (Nat → va_E) → Prop} (hdg : decode cc pc = .ok (.invokevirtual index, 3)) (hM : pv_Mi l κ y2 ws2 rm2 L f (.ref b :: As) mc ms post) (cw : CallW R s args y.cls C2 index y2 bytes maxL ret ws2 rm2 mc ms n) (hL : b ∈ L) (hfb : f b = .inr (ci, fs)) (hcl : vwCl[ci]? = some r0) (hr0 : r0.1 = C2) (hn : As.length = n) (hst : st = As.reverse ++ .ref b :: rest) (hWt : (rest.map fun v => v.category).sum ≤ 8) (hcs : cells + mc ≤ R.cells ∧ slots + ms ≤ R.slots) (kk : ∀ (r : Int32) (u : List Nat × (Nat → va_E)), post r u → pv_G κ p l e R s m args below meth c Q A nL (cells + mc) (slots + ms) u.1 u.2 (pc + 3) vs (.int r :: rest)) : pv_G κ p l e R s m args below meth c Q A nL cells slots L f pc vs st := fun H locs ls hP hD hS h => by
  subst hst
  refine va_calli (va_runV (As := As) (rest := rest) ⟨hC.1, hC.2.1, hC.2.2.1, hC.2.2.2.1, hC.2.2.2.2.1⟩ (hM H.size) cw ⟨pv_blind, (by obtain ⟨q0, hq⟩ := pv_at (D := κ.1) (H := H) hL hfb; rw [← hr0]; exact va_recv hC.2.2.2.2.2.2.2.1 hP hcl hq), fun U hU hW => ⟨rfl, pv_pre hC.2.2.2.2.2.2.2.2.1 hC.2.2.2.2.2.2.2.1 hC.2.2.2.2.2.2.2.2.2.1 hP hD hS hU hW⟩⟩ rfl hn h.1 rfl (by show 2 * 0 + _ ≤ 8; omega) hdg hcs) hS (fun q _ z => pv_A_in hC.2.2.2.2.2.2.2.2.1 hD hS q z) (pv_A_in hC.2.2.2.2.2.2.2.2.1 hD hS) (fun r u t H1 locs1 ht hvm hw hB hz hk hS1 => ?_)
  obtain ⟨hP1, -, hD1⟩ := hB
  rw [ht] at hP1
  exact kk r u hw H1 locs1 ls hP1 (hD1.weaken (fun _ q _ z => pv_A_in hC.2.2.2.2.2.2.2.2.1 hD hS q.1 z)) hS1 h
theorem pg_callVv (hC : pv_C κ p R s m args meth c y cc nL Ts rt A) {y2 : MethodName} {ws2 : List Cond} {rm2 : Room} {bytes : ByteArray} {maxL : Nat} {ret : Option FieldType} {n index ci b : Nat} {C2 : String} {fs : List Value} {r0 : vw_C} {As rest : List Value} {mc ms : Nat} {post : List Nat × (Nat → va_E) → Prop} (hdg : decode cc pc = .ok (.invokevirtual index, 3)) (hM : pv_Mv l κ y2 ws2 rm2 L f (.ref b :: As) mc ms post) (cw : CallW R s args y.cls C2 index y2 bytes maxL ret ws2 rm2 mc ms n) (hL : b ∈ L) (hfb : f b = .inr (ci, fs)) (hcl : vwCl[ci]? = some r0) (hr0 : r0.1 = C2) (hn : As.length = n) (hst : st = As.reverse ++ .ref b :: rest) (hWt : (rest.map fun v => v.category).sum ≤ 8) (hcs : cells + mc ≤ R.cells ∧ slots + ms ≤ R.slots) (kk : ∀ (u : List Nat × (Nat → va_E)), post u → pv_G κ p l e R s m args below meth c Q A nL (cells + mc) (slots + ms) u.1 u.2 (pc + 3) vs rest) : pv_G κ p l e R s m args below meth c Q A nL cells slots L f pc vs st := fun H locs ls hP hD hS h => by
  subst hst
  refine va_callv (va_runV (As := As) (rest := rest) ⟨hC.1, hC.2.1, hC.2.2.1, hC.2.2.2.1, hC.2.2.2.2.1⟩ (hM H.size) cw ⟨pv_blind, (by obtain ⟨q0, hq⟩ := pv_at (D := κ.1) (H := H) hL hfb; rw [← hr0]; exact va_recv hC.2.2.2.2.2.2.2.1 hP hcl hq), fun U hU hW => ⟨rfl, pv_pre hC.2.2.2.2.2.2.2.2.1 hC.2.2.2.2.2.2.2.1 hC.2.2.2.2.2.2.2.2.2.1 hP hD hS hU hW⟩⟩ rfl hn h.1 rfl (by show 2 * 0 + _ ≤ 8; omega) hdg hcs) hS (fun q _ z => pv_A_in hC.2.2.2.2.2.2.2.2.1 hD hS q z) (pv_A_in hC.2.2.2.2.2.2.2.2.1 hD hS) (fun u t H1 locs1 ht hvm hw hB hz hk hS1 => ?_)
  obtain ⟨hP1, -, hD1⟩ := hB
  rw [ht] at hP1
  exact kk u hw H1 locs1 ls hP1 (hD1.weaken (fun _ q _ z => pv_A_in hC.2.2.2.2.2.2.2.2.1 hD hS q.1 z)) hS1 h
theorem pg_callSi (hC : pv_C κ p R s m args meth c y cc nL Ts rt A) {y2 : MethodName} {ws2 : List Cond} {rm2 : Room} {bytes : ByteArray} {maxL : Nat} {ret : Option FieldType} {n index : Nat} {As rest : List Value} {mc ms : Nat} {post : Int32 → List Nat × (Nat → va_E) → Prop} (hdg : decode cc pc = .ok (.invokestatic index, 3)) (hM : pv_Mi l κ y2 ws2 rm2 L f As mc ms post) (cw : CallB R s args y.cls index y2 bytes maxL ret ws2 rm2 mc ms n ∧ (Cond.static y2).before args s = true) (hn : As.length = n) (hst : st = As.reverse ++ rest) (hWt : (rest.map fun v => v.category).sum ≤ 8) (hcs : cells + mc ≤ R.cells ∧ slots + ms ≤ R.slots) (kk : ∀ (r : Int32) (u : List Nat × (Nat → va_E)), post r u → pv_G κ p l e R s m args below meth c Q A nL (cells + mc) (slots + ms) u.1 u.2 (pc + 3) vs (.int r :: rest)) : pv_G κ p l e R s m args below meth c Q A nL cells slots L f pc vs st := fun H locs ls hP hD hS h => by
  subst hst
  refine va_calli (va_runS (As := As) (rest := rest) ⟨hC.1, hC.2.1, hC.2.2.1, hC.2.2.2.1, hC.2.2.2.2.1⟩ (hM H.size) cw ⟨pv_blind, fun U hU hW => ⟨rfl, pv_pre hC.2.2.2.2.2.2.2.2.1 hC.2.2.2.2.2.2.2.1 hC.2.2.2.2.2.2.2.2.2.1 hP hD hS hU hW⟩⟩ rfl hn h.1 rfl (by show 2 * 0 + _ ≤ 8; omega) hdg hcs) hS (fun q _ z => pv_A_in hC.2.2.2.2.2.2.2.2.1 hD hS q z) (pv_A_in hC.2.2.2.2.2.2.2.2.1 hD hS) (fun r u t H1 locs1 ht hvm hw hB hz hk hS1 => ?_)
  obtain ⟨hP1, -, hD1⟩ := hB
  rw [ht] at hP1
  exact kk r u hw H1 locs1 ls hP1 (hD1.weaken (fun _ q _ z => pv_A_in hC.2.2.2.2.2.2.2.2.1 hD hS q.1 z)) hS1 h
theorem pg_callSv (hC : pv_C κ p R s m args meth c y cc nL Ts rt A) {y2 : MethodName} {ws2 : List Cond} {rm2 : Room} {bytes : ByteArray} {maxL : Nat} {ret : Option FieldType} {n index : Nat} {As rest : List Value} {mc ms : Nat} {post : List Nat × (Nat → va_E) → Prop} (hdg : decode cc pc = .ok (.invokestatic index, 3)) (hM : pv_Mv l κ y2 ws2 rm2 L f As mc ms post) (cw : CallB R s args y.cls index y2 bytes maxL ret ws2 rm2 mc ms n ∧ (Cond.static y2).before args s = true) (hn : As.length = n) (hst : st = As.reverse ++ rest) (hWt : (rest.map fun v => v.category).sum ≤ 8) (hcs : cells + mc ≤ R.cells ∧ slots + ms ≤ R.slots) (kk : ∀ (u : List Nat × (Nat → va_E)), post u → pv_G κ p l e R s m args below meth c Q A nL (cells + mc) (slots + ms) u.1 u.2 (pc + 3) vs rest) : pv_G κ p l e R s m args below meth c Q A nL cells slots L f pc vs st := fun H locs ls hP hD hS h => by
  subst hst
  refine va_callv (va_runS (As := As) (rest := rest) ⟨hC.1, hC.2.1, hC.2.2.1, hC.2.2.2.1, hC.2.2.2.2.1⟩ (hM H.size) cw ⟨pv_blind, fun U hU hW => ⟨rfl, pv_pre hC.2.2.2.2.2.2.2.2.1 hC.2.2.2.2.2.2.2.1 hC.2.2.2.2.2.2.2.2.2.1 hP hD hS hU hW⟩⟩ rfl hn h.1 rfl (by show 2 * 0 + _ ≤ 8; omega) hdg hcs) hS (fun q _ z => pv_A_in hC.2.2.2.2.2.2.2.2.1 hD hS q z) (pv_A_in hC.2.2.2.2.2.2.2.2.1 hD hS) (fun u t H1 locs1 ht hvm hw hB hz hk hS1 => ?_)
  obtain ⟨hP1, -, hD1⟩ := hB
  rw [ht] at hP1
  exact kk u hw H1 locs1 ls hP1 (hD1.weaken (fun _ q _ z => pv_A_in hC.2.2.2.2.2.2.2.2.1 hD hS q.1 z)) hS1 h
theorem pg_callSNi (hC : pv_C κ p R s m args meth c y cc nL Ts rt A) {y2 : MethodName} {ws2 : List Cond} {rm2 : Room} {bytes : ByteArray} {maxL : Nat} {ret : Option FieldType} {n index : Nat} {host : String} {As rest : List Value} {mc ms : Nat} {post : Int32 → List Nat × (Nat → va_E) → Prop} (hdg : decode cc pc = .ok (.invokestatic index, 3)) (hM : pv_Mi l κ y2 ws2 rm2 L f As mc ms post) (cw : va_CN R s args y.cls index y2 host bytes maxL ret ws2 rm2 mc ms n ∧ (Cond.static y2).before args s = true ∧ True) (hn : As.length = n) (hst : st = As.reverse ++ rest) (hWt : (rest.map fun v => v.category).sum ≤ 8) (hcs : cells + mc ≤ R.cells ∧ slots + ms ≤ R.slots) (kk : ∀ (r : Int32) (u : List Nat × (Nat → va_E)), post r u → pv_G κ p l e R s m args below meth c Q A nL (cells + mc) (slots + ms) u.1 u.2 (pc + 3) vs (.int r :: rest)) : pv_G κ p l e R s m args below meth c Q A nL cells slots L f pc vs st := fun H locs ls hP hD hS h => by
  subst hst
  refine va_calli (va_runSN (As := As) (rest := rest) ⟨hC.1, hC.2.1, hC.2.2.1, hC.2.2.2.1, hC.2.2.2.2.1⟩ (hM H.size) cw ⟨pv_blind, fun U hU hW => ⟨rfl, pv_pre hC.2.2.2.2.2.2.2.2.1 hC.2.2.2.2.2.2.2.1 hC.2.2.2.2.2.2.2.2.2.1 hP hD hS hU hW⟩⟩ rfl hn h.1 rfl (by show 2 * 0 + _ ≤ 8; omega) hdg hcs) hS (fun q _ z => pv_A_in hC.2.2.2.2.2.2.2.2.1 hD hS q z) (pv_A_in hC.2.2.2.2.2.2.2.2.1 hD hS) (fun r u t H1 locs1 ht hvm hw hB hz hk hS1 => ?_)
  obtain ⟨hP1, -, hD1⟩ := hB
  rw [ht] at hP1
  exact kk r u hw H1 locs1 ls hP1 (hD1.weaken (fun _ q _ z => pv_A_in hC.2.2.2.2.2.2.2.2.1 hD hS q.1 z)) hS1 h
theorem pg_callSNv (hC : pv_C κ p R s m args meth c y cc nL Ts rt A) {y2 : MethodName} {ws2 : List Cond} {rm2 : Room} {bytes : ByteArray} {maxL : Nat} {ret : Option FieldType} {n index : Nat} {host : String} {As rest : List Value} {mc ms : Nat} {post : List Nat × (Nat → va_E) → Prop} (hdg : decode cc pc = .ok (.invokestatic index, 3)) (hM : pv_Mv l κ y2 ws2 rm2 L f As mc ms post) (cw : va_CN R s args y.cls index y2 host bytes maxL ret ws2 rm2 mc ms n ∧ (Cond.static y2).before args s = true ∧ True) (hn : As.length = n) (hst : st = As.reverse ++ rest) (hWt : (rest.map fun v => v.category).sum ≤ 8) (hcs : cells + mc ≤ R.cells ∧ slots + ms ≤ R.slots) (kk : ∀ (u : List Nat × (Nat → va_E)), post u → pv_G κ p l e R s m args below meth c Q A nL (cells + mc) (slots + ms) u.1 u.2 (pc + 3) vs rest) : pv_G κ p l e R s m args below meth c Q A nL cells slots L f pc vs st := fun H locs ls hP hD hS h => by
  subst hst
  refine va_callv (va_runSN (As := As) (rest := rest) ⟨hC.1, hC.2.1, hC.2.2.1, hC.2.2.2.1, hC.2.2.2.2.1⟩ (hM H.size) cw ⟨pv_blind, fun U hU hW => ⟨rfl, pv_pre hC.2.2.2.2.2.2.2.2.1 hC.2.2.2.2.2.2.2.1 hC.2.2.2.2.2.2.2.2.2.1 hP hD hS hU hW⟩⟩ rfl hn h.1 rfl (by show 2 * 0 + _ ≤ 8; omega) hdg hcs) hS (fun q _ z => pv_A_in hC.2.2.2.2.2.2.2.2.1 hD hS q z) (pv_A_in hC.2.2.2.2.2.2.2.2.1 hD hS) (fun u t H1 locs1 ht hvm hw hB hz hk hS1 => ?_)
  obtain ⟨hP1, -, hD1⟩ := hB
  rw [ht] at hP1
  exact kk u hw H1 locs1 ls hP1 (hD1.weaken (fun _ q _ z => pv_A_in hC.2.2.2.2.2.2.2.2.1 hD hS q.1 z)) hS1 h
theorem pg_callIv (hC : pv_C κ p R s m args meth c y cc nL Ts rt A) {y2 : MethodName} {ws2 : List Cond} {rm2 : Room} {bytes : ByteArray} {maxL : Nat} {n index b : Nat} {As rest : List Value} {mc ms : Nat} {post : List Nat × (Nat → va_E) → Prop} (hdg : decode cc pc = .ok (.invokespecial index, 3)) (hM : pv_Mv l κ y2 ws2 rm2 L f (.ref b :: As) mc ms post) (cw : CallB R s args y.cls index y2 bytes maxL none ws2 rm2 mc ms n ∧ y2.name = "<init>" ∧ (Cond.instanceMethod y2).before args s = true) (hn : As.length = n) (hst : st = As.reverse ++ .ref b :: rest) (hWt : (rest.map fun v => v.category).sum ≤ 8) (hcs : cells + mc ≤ R.cells ∧ slots + ms ≤ R.slots) (kk : ∀ (u : List Nat × (Nat → va_E)), post u → pv_G κ p l e R s m args below meth c Q A nL (cells + mc) (slots + ms) u.1 u.2 (pc + 3) vs rest) : pv_G κ p l e R s m args below meth c Q A nL cells slots L f pc vs st := fun H locs ls hP hD hS h => by
  subst hst
  refine va_callv (va_runI (As := As) (rest := rest) ⟨hC.1, hC.2.1, hC.2.2.1, hC.2.2.2.1, hC.2.2.2.2.1⟩ (hM H.size) cw ⟨pv_blind, fun U hU hW => ⟨rfl, pv_pre hC.2.2.2.2.2.2.2.2.1 hC.2.2.2.2.2.2.2.1 hC.2.2.2.2.2.2.2.2.2.1 hP hD hS hU hW⟩⟩ rfl hn h.1 rfl (by show 2 * 0 + _ ≤ 8; omega) hdg hcs) hS (fun q _ z => pv_A_in hC.2.2.2.2.2.2.2.2.1 hD hS q z) (pv_A_in hC.2.2.2.2.2.2.2.2.1 hD hS) (fun u t H1 locs1 ht hvm hw hB hz hk hS1 => ?_)
  obtain ⟨hP1, -, hD1⟩ := hB
  rw [ht] at hP1
  exact kk u hw H1 locs1 ls hP1 (hD1.weaken (fun _ q _ z => pv_A_in hC.2.2.2.2.2.2.2.2.1 hD hS q.1 z)) hS1 h
theorem pg_callINv (hC : pv_C κ p R s m args meth c y cc nL Ts rt A) {y2 : MethodName} {ws2 : List Cond} {rm2 : Room} {bytes : ByteArray} {maxL : Nat} {n index b : Nat} {host : String} {As rest : List Value} {mc ms : Nat} {post : List Nat × (Nat → va_E) → Prop} (hdg : decode cc pc = .ok (.invokespecial index, 3)) (hM : pv_Mv l κ y2 ws2 rm2 L f (.ref b :: As) mc ms post) (cw : va_CN R s args y.cls index y2 host bytes maxL none ws2 rm2 mc ms n ∧ y2.name = "<init>" ∧ (Cond.instanceMethod y2).before args s = true) (hn : As.length = n) (hst : st = As.reverse ++ .ref b :: rest) (hWt : (rest.map fun v => v.category).sum ≤ 8) (hcs : cells + mc ≤ R.cells ∧ slots + ms ≤ R.slots) (kk : ∀ (u : List Nat × (Nat → va_E)), post u → pv_G κ p l e R s m args below meth c Q A nL (cells + mc) (slots + ms) u.1 u.2 (pc + 3) vs rest) : pv_G κ p l e R s m args below meth c Q A nL cells slots L f pc vs st := fun H locs ls hP hD hS h => by
  subst hst
  refine va_callv (va_runIN (As := As) (rest := rest) ⟨hC.1, hC.2.1, hC.2.2.1, hC.2.2.2.1, hC.2.2.2.2.1⟩ (hM H.size) cw ⟨pv_blind, fun U hU hW => ⟨rfl, pv_pre hC.2.2.2.2.2.2.2.2.1 hC.2.2.2.2.2.2.2.1 hC.2.2.2.2.2.2.2.2.2.1 hP hD hS hU hW⟩⟩ rfl hn h.1 rfl (by show 2 * 0 + _ ≤ 8; omega) hdg hcs) hS (fun q _ z => pv_A_in hC.2.2.2.2.2.2.2.2.1 hD hS q z) (pv_A_in hC.2.2.2.2.2.2.2.2.1 hD hS) (fun u t H1 locs1 ht hvm hw hB hz hk hS1 => ?_)
  obtain ⟨hP1, -, hD1⟩ := hB
  rw [ht] at hP1
  exact kk u hw H1 locs1 ls hP1 (hD1.weaken (fun _ q _ z => pv_A_in hC.2.2.2.2.2.2.2.2.1 hD hS q.1 z)) hS1 h
end PVR
end
section
/-! ===== the whole world as a table of groups: 0 the school in use, 1 to 6 the history's, 7 and 8 the slots', 9 the pad, 10 the reader, 12 history, class object and saved ===== -/
def pv_n (i : Nat) : Nat := if i < 9 then 14 else if i = 9 then 2 else if i = 10 then 1 else if i = 12 then 5 else 0
def pv_sl (k : Nat) : Nat := match k with | 0 => 5 | 2 => 12 | 3 => 12 | 4 => 12 | 5 => 120 | 12 => 5 | 13 => 5 | _ => 10
abbrev pv_so (a : Nat → Nat) (z : Nat → Nat → Int32) : List Value := [.ref (a 0), .int (z 1 0), .ref (a 2), .ref (a 3), .ref (a 4), .ref (a 5), .ref (a 6), .ref (a 7), .ref (a 8), .ref (a 9), .ref (a 10), .ref (a 11), .ref (a 12), .ref (a 13), .int (z 14 0)]
abbrev pv_ro (z : Nat → Nat → Int32) : List Value := [.int (z 0 0), .int (z 1 0), .int (z 2 0), .int (z 3 0), .int (z 4 0)]
def pv_eg (κ : pv_Kt) (x : Nat → Nat → Nat) (z : Nat → Nat → Int32) (i k : Nat) : va_E :=
  if i < 9 then (if k = 1 then .inr (3, pv_so (x i) z) else .inl (κ.2.1 1, pv_sl k, .inl (z k)))
  else if i = 9 then (if k = 1 then .inr (1, [.ref (x i 0), .int (z 1 0)]) else .inl (κ.2.1 0, 60, .inl (z 0)))
  else if i = 10 then .inr (2, pv_ro z)
  else if k = 0 then .inr (0, [.ref (x i 1), .int (z 1 0), .int (z 2 0)])
  else if k = 1 then .inl (κ.2.1 3, 6, .inr (.inr (.inr (.inr (fun j => some (x (1 + j) 1))))))
  else if k = 2 then .inr (4, [.ref (x 0 1), .ref (x i 0), .ref (x i 3), .ref (x i 4), .ref (x 9 1), .ref (x 10 0)])
  else if k = 3 then .inl (κ.2.1 3, 2, .inr (.inr (.inr (.inr (fun j => some (x (7 + j) 1))))))
  else .inl (κ.2.1 2, 2, .inl (z 4))
def pv_ok (κ : pv_Kt) (x : Nat → Nat → Nat) (L : List Nat) (f : Nat → va_E) (Z : Nat → Nat → Nat → Int32) : Prop := (∀ i k, k < pv_n i → x i k ∈ L) ∧ (∀ i k j l, k < pv_n i → l < pv_n j → x i k = x j l → i = j ∧ k = l) ∧ ∀ i k, k < pv_n i → f (x i k) = pv_eg κ x (Z i) i k
def pv_u (Z : Nat → Nat → Nat → Int32) (i k : Nat) (row : Nat → Int32) : Nat → Nat → Nat → Int32 := va_up Z i (va_up (Z i) k row)
/-- a field of its own: the row's place 0 -/
def pv_ui (Z : Nat → Nat → Nat → Int32) (i k : Nat) (v : Int32) : Nat → Nat → Nat → Int32 := pv_u Z i k (fun _ => v)
/-- one place of a row -/
def pv_ua (Z : Nat → Nat → Nat → Int32) (i k j : Nat) (v : Int32) : Nat → Nat → Nat → Int32 := pv_u Z i k (va_up (Z i k) j v)
section PVO
variable {κ : pv_Kt} {x : Nat → Nat → Nat} {L : List Nat} {f : Nat → va_E} {Z : Nat → Nat → Nat → Int32} {i k : Nat} {row : Nat → Int32}
theorem pv_u_o {j : Nat} (h : j ≠ i) : pv_u Z i k row j = Z j := by simp [pv_u, va_up, h]
theorem pv_u_i {l : Nat} (h : l ≠ k) : pv_u Z i k row i l = Z i l := by simp [pv_u, va_up, h]
theorem pv_u_e : pv_u Z i k row i k = row := by simp [pv_u, va_up]
theorem ok_mem (h : pv_ok κ x L f Z) (hk : k < pv_n i) : x i k ∈ L := h.1 i k hk
theorem pv_nS (hi : i < 9) (hk : k < 14) : k < pv_n i := by simp only [pv_n, if_pos hi]; exact hk
theorem ok_So (h : pv_ok κ x L f Z) (hi : i < 9) : f (x i 1) = .inr (3, pv_so (x i) (Z i)) := by
  rw [h.2.2 i 1 (pv_nS hi (by decide))]; simp only [pv_eg, if_pos hi, if_true]
theorem ok_Sa (h : pv_ok κ x L f Z) (hi : i < 9) (k : Nat) (hk : k < 14) (h1 : k ≠ 1) : f (x i k) = .inl (κ.2.1 1, pv_sl k, .inl (Z i k)) := by
  rw [h.2.2 i k (pv_nS hi hk)]; simp only [pv_eg, if_pos hi, if_neg h1]
theorem ok_Sm (h : pv_ok κ x L f Z) (hi : i < 9) (k : Nat) (hk : k < 14) : x i k ∈ L := h.1 i k (pv_nS hi hk)
theorem ok_Po (h : pv_ok κ x L f Z) : f (x 9 1) = .inr (1, [.ref (x 9 0), .int (Z 9 1 0)]) := h.2.2 9 1 (by decide)
theorem ok_Pa (h : pv_ok κ x L f Z) : f (x 9 0) = .inl (κ.2.1 0, 60, .inl (Z 9 0)) := h.2.2 9 0 (by decide)
theorem ok_Ro (h : pv_ok κ x L f Z) : f (x 10 0) = .inr (2, pv_ro (Z 10)) := h.2.2 10 0 (by decide)
theorem ok_Ho (h : pv_ok κ x L f Z) : f (x 12 0) = .inr (0, [.ref (x 12 1), .int (Z 12 1 0), .int (Z 12 2 0)]) := h.2.2 12 0 (by decide)
theorem ok_Hs (h : pv_ok κ x L f Z) : f (x 12 1) = .inl (κ.2.1 3, 6, .inr (.inr (.inr (.inr (fun j => some (x (1 + j) 1)))))) := h.2.2 12 1 (by decide)
theorem ok_Xo (h : pv_ok κ x L f Z) : f (x 12 2) = .inr (4, [.ref (x 0 1), .ref (x 12 0), .ref (x 12 3), .ref (x 12 4), .ref (x 9 1), .ref (x 10 0)]) := h.2.2 12 2 (by decide)
theorem ok_Xs (h : pv_ok κ x L f Z) : f (x 12 3) = .inl (κ.2.1 3, 2, .inr (.inr (.inr (.inr (fun j => some (x (7 + j) 1)))))) := h.2.2 12 3 (by decide)
theorem ok_Xb (h : pv_ok κ x L f Z) : f (x 12 4) = .inl (κ.2.1 2, 2, .inl (Z 12 4)) := h.2.2 12 4 (by decide)
/-- one cell changes -/
theorem ok_put {Z' : Nat → Nat → Nat → Int32} {E : va_E} (h : pv_ok κ x L f Z) (hk : k < pv_n i) (hE : pv_eg κ x (Z' i) i k = E) (ho : ∀ l, l < pv_n i → l ≠ k → pv_eg κ x (Z' i) i l = pv_eg κ x (Z i) i l) (hj : ∀ j, j ≠ i → Z' j = Z j) : pv_ok κ x L (va_up f (x i k) E) Z' := by
  refine ⟨h.1, h.2.1, fun j l hl => ?_⟩
  by_cases e : x j l = x i k
  · obtain ⟨rfl, rfl⟩ := h.2.1 j l i k hl hk e
    rw [hE]; simp [va_up]
  · have e1 : va_up f (x i k) E (x j l) = f (x j l) := by simp [va_up, e]
    rw [e1, h.2.2 j l hl]
    by_cases ej : j = i
    · subst ej
      exact (ho l hl (fun z => e (by rw [z]))).symm
    · rw [hj j ej]
theorem okp_Sa (h : pv_ok κ x L f Z) (hi : i < 9) (hk : k < 14) (h1 : k ≠ 1) {n : Nat} (hn : pv_sl k = n) : pv_ok κ x L (va_up f (x i k) (.inl (κ.2.1 1, n, .inl row))) (pv_u Z i k row) := by
  subst hn
  refine ok_put h (pv_nS hi hk) ?_ (fun l _ hl => ?_) (fun j hj => pv_u_o hj)
  · simp only [pv_eg, if_pos hi, if_neg h1, pv_u_e]
  · have e1 : pv_u Z i k row i 1 = Z i 1 := pv_u_i (Ne.symm h1)
    have e2 : pv_u Z i k row i 14 = Z i 14 := pv_u_i (by omega)
    simp only [pv_eg, if_pos hi, pv_so, e1, e2, pv_u_i hl]
theorem okp_So (h : pv_ok κ x L f Z) (hi : i < 9) (v : Int32) : pv_ok κ x L (va_up f (x i 1) (.inr (3, (pv_so (x i) (Z i)).set 1 (.int v)))) (pv_ui Z i 1 v) := by
  refine ok_put h (pv_nS hi (by decide)) ?_ (fun l _ hl => ?_) (fun j hj => pv_u_o hj)
  · have e2 : pv_u Z i 1 (fun _ => v) i 14 = Z i 14 := pv_u_i (by decide)
    simp only [pv_eg, if_pos hi, if_true, pv_ui, pv_so, e2, pv_u_e]; rfl
  · simp only [pv_eg, if_pos hi, if_neg hl, pv_ui, pv_u_i hl]
theorem okp_St (h : pv_ok κ x L f Z) (hi : i < 9) (v : Int32) : pv_ok κ x L (va_up f (x i 1) (.inr (3, (pv_so (x i) (Z i)).set 14 (.int v)))) (pv_ui Z i 14 v) := by
  refine ok_put h (pv_nS hi (by decide)) ?_ (fun l hll hl => ?_) (fun j hj => pv_u_o hj)
  · have e2 : pv_u Z i 14 (fun _ => v) i 1 = Z i 1 := pv_u_i (by decide)
    simp only [pv_eg, if_pos hi, if_true, pv_ui, pv_so, e2, pv_u_e]; rfl
  · have h14 : l ≠ 14 := by
      simp only [pv_n, if_pos hi] at hll
      omega
    simp only [pv_eg, if_pos hi, if_neg hl, pv_ui, pv_u_i h14]
theorem pv_uu : pv_u Z i k row i = va_up (Z i) k row := by simp [pv_u, va_up]
theorem okp_Pa (h : pv_ok κ x L f Z) : pv_ok κ x L (va_up f (x 9 0) (.inl (κ.2.1 0, 60, .inl row))) (pv_u Z 9 0 row) := by
  refine ok_put h (by decide) (by rw [pv_uu]; rfl) (fun l hl hne => ?_) (fun j hj => pv_u_o hj)
  rw [pv_uu]
  have hl2 : l < 2 := hl
  rcases (show l = 0 ∨ l = 1 by omega) with rfl | rfl <;> first | rfl | exact absurd rfl hne
theorem okp_Po (h : pv_ok κ x L f Z) (v : Int32) : pv_ok κ x L (va_up f (x 9 1) (.inr (1, [.ref (x 9 0), .int v]))) (pv_ui Z 9 1 v) := by
  refine ok_put h (by decide) (by rw [pv_ui, pv_uu]; rfl) (fun l hl hne => ?_) (fun j hj => pv_u_o hj)
  rw [pv_ui, pv_uu]
  have hl2 : l < 2 := hl
  rcases (show l = 0 ∨ l = 1 by omega) with rfl | rfl <;> first | rfl | exact absurd rfl hne
theorem okp_R0 (h : pv_ok κ x L f Z) (v : Int32) : pv_ok κ x L (va_up f (x 10 0) (.inr (2, [.int v, .int (Z 10 1 0), .int (Z 10 2 0), .int (Z 10 3 0), .int (Z 10 4 0)]))) (pv_ui Z 10 0 v) := by
  refine ok_put h (by decide) (by rw [pv_ui, pv_uu]; rfl) (fun l hl hne => ?_) (fun j hj => pv_u_o hj)
  rw [pv_ui, pv_uu]
  have hl2 : l < 1 := hl
  rcases (show l = 0 by omega) with rfl <;> first | rfl | exact absurd rfl hne
theorem okp_R1 (h : pv_ok κ x L f Z) (v : Int32) : pv_ok κ x L (va_up f (x 10 0) (.inr (2, [.int (Z 10 0 0), .int v, .int (Z 10 2 0), .int (Z 10 3 0), .int (Z 10 4 0)]))) (pv_ui Z 10 1 v) := by
  refine ok_put h (by decide) (by rw [pv_ui, pv_uu]; rfl) (fun l hl hne => ?_) (fun j hj => pv_u_o hj)
  rw [pv_ui, pv_uu]
  have hl2 : l < 1 := hl
  rcases (show l = 0 by omega) with rfl <;> first | rfl | exact absurd rfl hne
theorem okp_R2 (h : pv_ok κ x L f Z) (v : Int32) : pv_ok κ x L (va_up f (x 10 0) (.inr (2, [.int (Z 10 0 0), .int (Z 10 1 0), .int v, .int (Z 10 3 0), .int (Z 10 4 0)]))) (pv_ui Z 10 2 v) := by
  refine ok_put h (by decide) (by rw [pv_ui, pv_uu]; rfl) (fun l hl hne => ?_) (fun j hj => pv_u_o hj)
  rw [pv_ui, pv_uu]
  have hl2 : l < 1 := hl
  rcases (show l = 0 by omega) with rfl <;> first | rfl | exact absurd rfl hne
theorem okp_R3 (h : pv_ok κ x L f Z) (v : Int32) : pv_ok κ x L (va_up f (x 10 0) (.inr (2, [.int (Z 10 0 0), .int (Z 10 1 0), .int (Z 10 2 0), .int v, .int (Z 10 4 0)]))) (pv_ui Z 10 3 v) := by
  refine ok_put h (by decide) (by rw [pv_ui, pv_uu]; rfl) (fun l hl hne => ?_) (fun j hj => pv_u_o hj)
  rw [pv_ui, pv_uu]
  have hl2 : l < 1 := hl
  rcases (show l = 0 by omega) with rfl <;> first | rfl | exact absurd rfl hne
theorem okp_R4 (h : pv_ok κ x L f Z) (v : Int32) : pv_ok κ x L (va_up f (x 10 0) (.inr (2, [.int (Z 10 0 0), .int (Z 10 1 0), .int (Z 10 2 0), .int (Z 10 3 0), .int v]))) (pv_ui Z 10 4 v) := by
  refine ok_put h (by decide) (by rw [pv_ui, pv_uu]; rfl) (fun l hl hne => ?_) (fun j hj => pv_u_o hj)
  rw [pv_ui, pv_uu]
  have hl2 : l < 1 := hl
  rcases (show l = 0 by omega) with rfl <;> first | rfl | exact absurd rfl hne
theorem okp_H1 (h : pv_ok κ x L f Z) (v : Int32) : pv_ok κ x L (va_up f (x 12 0) (.inr (0, [.ref (x 12 1), .int v, .int (Z 12 2 0)]))) (pv_ui Z 12 1 v) := by
  refine ok_put h (by decide) (by rw [pv_ui, pv_uu]; rfl) (fun l hl hne => ?_) (fun j hj => pv_u_o hj)
  rw [pv_ui, pv_uu]
  have hl2 : l < 5 := hl
  rcases (show l = 0 ∨ l = 1 ∨ l = 2 ∨ l = 3 ∨ l = 4 by omega) with rfl | rfl | rfl | rfl | rfl <;> first | rfl | exact absurd rfl hne
theorem okp_H2 (h : pv_ok κ x L f Z) (v : Int32) : pv_ok κ x L (va_up f (x 12 0) (.inr (0, [.ref (x 12 1), .int (Z 12 1 0), .int v]))) (pv_ui Z 12 2 v) := by
  refine ok_put h (by decide) (by rw [pv_ui, pv_uu]; rfl) (fun l hl hne => ?_) (fun j hj => pv_u_o hj)
  rw [pv_ui, pv_uu]
  have hl2 : l < 5 := hl
  rcases (show l = 0 ∨ l = 1 ∨ l = 2 ∨ l = 3 ∨ l = 4 by omega) with rfl | rfl | rfl | rfl | rfl <;> first | rfl | exact absurd rfl hne
theorem okp_X4 (h : pv_ok κ x L f Z) : pv_ok κ x L (va_up f (x 12 4) (.inl (κ.2.1 2, 2, .inl row))) (pv_u Z 12 4 row) := by
  refine ok_put h (by decide) (by rw [pv_uu]; rfl) (fun l hl hne => ?_) (fun j hj => pv_u_o hj)
  rw [pv_uu]
  have hl2 : l < 5 := hl
  rcases (show l = 0 ∨ l = 1 ∨ l = 2 ∨ l = 3 ∨ l = 4 by omega) with rfl | rfl | rfl | rfl | rfl <;> first | rfl | exact absurd rfl hne
end PVO
end
section
/-- one place of one row of a group's table -/
def zu (z : Nat → Nat → Int32) (k j : Nat) (v : Int32) : Nat → Nat → Int32 := va_up z k (va_up (z k) j v)
theorem zu_o {z : Nat → Nat → Int32} {k j l : Nat} {v : Int32} (h : l ≠ k) : zu z k j v l = z l := by simp [zu, va_up, h]
theorem zu_e {z : Nat → Nat → Int32} {k j : Nat} {v : Int32} : zu z k j v k = va_up (z k) j v := by simp [zu, va_up]
theorem zu_ee {z : Nat → Nat → Int32} {k j : Nat} {v : Int32} : zu z k j v k j = v := by simp [zu, va_up]
theorem zu_en {z : Nat → Nat → Int32} {k j q : Nat} {v : Int32} (h : q ≠ j) : zu z k j v k q = z k q := by simp [zu, va_up, h]
theorem zu_comm {z : Nat → Nat → Int32} {k j k2 j2 : Nat} {v v2 : Int32} (h : k ≠ k2) : zu (zu z k j v) k2 j2 v2 = zu (zu z k2 j2 v2) k j v := by
  funext a b
  simp only [zu, va_up]
  by_cases h1 : a = k2
  · subst h1
    simp [Ne.symm h]
  · by_cases h2 : a = k
    · subst h2
      simp [h, h1]
    · simp [h1, h2]
theorem va_up_e {α : Type} {Z : Nat → α} {i : Nat} {z : α} : va_up Z i z i = z := by simp [va_up]
theorem va_up_i {α : Type} (Z : Nat → α) (i : Nat) : va_up Z i (Z i) = Z := by
  funext a
  by_cases h : a = i
  · subst h; simp [va_up]
  · simp [va_up, h]
section PVS
variable {κ : pv_Kt} {x : Nat → Nat → Nat} {L : List Nat} {f : Nat → va_E} {Z : Nat → Nat → Nat → Int32} {z : Nat → Nat → Int32} {i k j : Nat}
theorem og_u {row : Nat → Int32} {g : Nat → va_E} (h : pv_ok κ x L g (pv_u (va_up Z i z) i k row)) : pv_ok κ x L g (va_up Z i (va_up z k row)) := by
  have e : pv_u (va_up Z i z) i k row = va_up Z i (va_up z k row) := by rw [pv_u, bx_uu, va_up_e]
  rw [← e]; exact h
/-- an own int field stands at the row's place 0 alone -/
theorem og_zS {g : Nat → va_E} {v : Int32} (hi : i < 9) (hk : k = 1 ∨ k = 14) (h : pv_ok κ x L g (va_up Z i (va_up z k (fun _ => v)))) : pv_ok κ x L g (va_up Z i (zu z k 0 v)) := by
  refine ⟨h.1, h.2.1, fun a b hb => ?_⟩
  rw [h.2.2 a b hb]
  by_cases e : a = i
  · subst e
    simp only [va_up_e]
    have hb14 : b < 14 := by simp only [pv_n, if_pos hi] at hb; exact hb
    simp only [pv_eg, if_pos hi]
    by_cases b1 : b = 1
    · subst b1
      rcases hk with rfl | rfl <;> simp [pv_so, zu, va_up]
    · have hbk : b ≠ k := by omega
      simp [b1, zu, va_up, hbk]
  · simp [va_up, e]
end PVS
section PVT
variable {κ : pv_Kt} {p : Program} {l : Launch} {e : Env} {R : Room} {s : State} {m : MethodId} {args : Array Value} {below : List Frame} {meth : Method} {c : Code} {Q : State → Prop} {A : Nat → Prop} {nL : Nat} {cells slots : Nat} {L : List Nat} {f : Nat → va_E} {pc : Nat} {vs : List (Nat × Value)} {st : List Value}
variable {y : MethodName} {cc : ByteArray} {Ts : List Cond} {rt : Option FieldType}
variable {x : Nat → Nat → Nat} {Z : Nat → Nat → Nat → Int32} {z : Nat → Nat → Int32} {i : Nat}
theorem pv_sl_le : ∀ k : Nat, pv_sl k ≤ 120 := fun k => by unfold pv_sl; split <;> decide
theorem pv_soR {a : Nat → Nat} {w : Nat → Nat → Int32} : ∀ k : Nat, k < 14 → k ≠ 1 → (pv_so a w)[k]? = some (.ref (a k))
  | 0, _, _ => rfl | 1, _, h => absurd rfl h | 2, _, _ => rfl | 3, _, _ => rfl | 4, _, _ => rfl | 5, _, _ => rfl | 6, _, _ => rfl | 7, _, _ => rfl | 8, _, _ => rfl | 9, _, _ => rfl | 10, _, _ => rfl | 11, _, _ => rfl | 12, _, _ => rfl | 13, _, _ => rfl
  | k + 14, h, _ => absurd h (by omega)

theorem og_So (hok : pv_ok κ x L f (va_up Z i z)) (hi : i < 9) : f (x i 1) = .inr (3, pv_so (x i) z) := by
  have h := ok_So hok hi
  rw [va_up_e] at h
  exact h
theorem og_Sa (hok : pv_ok κ x L f (va_up Z i z)) (hi : i < 9) (k : Nat) (hk : k < 14) (h1 : k ≠ 1) : f (x i k) = .inl (κ.2.1 1, pv_sl k, .inl (z k)) := by
  have h := ok_Sa hok hi k hk h1
  rw [va_up_e] at h
  exact h
theorem pgS_geta (hC : pv_C κ p R s m args meth c y cc nL Ts rt A) {index : Nat} (hdg : decode cc pc = .ok (.getfield index, 3)) (k : Nat) (hlink : Cond.fieldLink y.cls index RX3 (TX3 k).2.1 (TX3 k).2.2.1 ∈ Ts) (hin : ∀ w ∈ wsX30, w ∈ Ts) (hok : pv_ok κ x L f (va_up Z i z)) (hi : i < 9) (hk : k < 14) (h1 : k ≠ 1) (hT : (TX3 k).1 = RX3) (kk : pv_G κ p l e R s m args below meth c Q A nL cells slots L f (pc + 3) vs (.ref (x i k) :: st)) : pv_G κ p l e R s m args below meth c Q A nL cells slots L f pc vs (.ref (x i 1) :: st) :=
  pg_get hC hdg k hin hlink (ok_Sm hok hi 1 (by decide)) (og_So hok hi) rfl (by omega) hT (pv_soR k hk h1) kk
theorem pgS_geti (hC : pv_C κ p R s m args meth c y cc nL Ts rt A) {index : Nat} {v : Int32} (hdg : decode cc pc = .ok (.getfield index, 3)) (k : Nat) (hlink : Cond.fieldLink y.cls index RX3 (TX3 k).2.1 (TX3 k).2.2.1 ∈ Ts) (hin : ∀ w ∈ wsX30, w ∈ Ts) (hok : pv_ok κ x L f (va_up Z i z)) (hi : i < 9) (hk : k = 1 ∨ k = 14) (hv : z k 0 = v) (kk : pv_G κ p l e R s m args below meth c Q A nL cells slots L f (pc + 3) vs (.int v :: st)) : pv_G κ p l e R s m args below meth c Q A nL cells slots L f pc vs (.ref (x i 1) :: st) := by
  subst hv
  rcases hk with rfl | rfl
  · exact pg_get hC hdg 1 hin hlink (ok_Sm hok hi 1 (by decide)) (og_So hok hi) rfl (by decide) rfl rfl kk
  · exact pg_get hC hdg 14 hin hlink (ok_Sm hok hi 1 (by decide)) (og_So hok hi) rfl (by decide) rfl rfl kk
theorem pgS_puti (hC : pv_C κ p R s m args meth c y cc nL Ts rt A) {index : Nat} {v : Int32} (hdg : decode cc pc = .ok (.putfield index, 3)) (k : Nat) (hlink : Cond.fieldLink y.cls index RX3 (TX3 k).2.1 (TX3 k).2.2.1 ∈ Ts) (hin : ∀ w ∈ wsX30, w ∈ Ts) (hok : pv_ok κ x L f (va_up Z i z)) (hi : i < 9) (hk : k = 1 ∨ k = 14) (kk : ∀ f2 : Nat → va_E, pv_ok κ x L f2 (va_up Z i (zu z k 0 v)) → pv_G κ p l e R s m args below meth c Q A nL cells slots L f2 (pc + 3) vs st) : pv_G κ p l e R s m args below meth c Q A nL cells slots L f pc vs (.int v :: .ref (x i 1) :: st) := by
  have e1 : va_up Z i z i = z := va_up_e
  rcases hk with rfl | rfl
  · refine pg_put (ty := .int) hC hdg 1 hin tyX3 tyX3_ok nmX3 hlink (ok_Sm hok hi 1 (by decide)) (og_So hok hi) rfl (by decide) rfl rfl (by decide +kernel) rfl rfl (Nat.le_of_ble_eq_true rfl) (kk _ ?_)
    have h := okp_So hok hi v
    rw [e1] at h
    exact og_zS hi (Or.inl rfl) (og_u h)
  · refine pg_put (ty := .int) hC hdg 14 hin tyX3 tyX3_ok nmX3 hlink (ok_Sm hok hi 1 (by decide)) (og_So hok hi) rfl (by decide) rfl rfl (by decide +kernel) rfl rfl (Nat.le_of_ble_eq_true rfl) (kk _ ?_)
    have h := okp_St hok hi v
    rw [e1] at h
    exact og_zS hi (Or.inr rfl) (og_u h)
theorem pgS_iald (hC : pv_C κ p R s m args meth c y cc nL Ts rt A) {ix v : Int32} (hdg : decode cc pc = .ok (.iaload, 1)) (k j : Nat) (hok : pv_ok κ x L f (va_up Z i z)) (hi : i < 9) (hk : k < 14) (h1 : k ≠ 1) (hix : ix = nI j) (hj : j < pv_sl k) (hv : z k j = v) (kk : pv_G κ p l e R s m args below meth c Q A nL cells slots L f (pc + 1) vs (.int v :: st)) : pv_G κ p l e R s m args below meth c Q A nL cells slots L f pc vs (.int ix :: .ref (x i k) :: st) :=
  pg_iald hC hdg j (ok_Sm hok hi k hk) (og_Sa hok hi k hk h1) hix hj (Nat.lt_of_le_of_lt (pv_sl_le k) (by decide)) hv kk
theorem pgS_iast (hC : pv_C κ p R s m args meth c y cc nL Ts rt A) {ix v : Int32} (hdg : decode cc pc = .ok (.iastore, 1)) (k j : Nat) (hok : pv_ok κ x L f (va_up Z i z)) (hi : i < 9) (hk : k < 14) (h1 : k ≠ 1) (hix : ix = nI j) (hj : j < pv_sl k) (kk : ∀ f2 : Nat → va_E, pv_ok κ x L f2 (va_up Z i (zu z k j v)) → pv_G κ p l e R s m args below meth c Q A nL cells slots L f2 (pc + 1) vs st) : pv_G κ p l e R s m args below meth c Q A nL cells slots L f pc vs (.int v :: .int ix :: .ref (x i k) :: st) :=
  pg_iast hC hdg j (ok_Sm hok hi k hk) (og_Sa hok hi k hk h1) hix hj (Nat.lt_of_le_of_lt (pv_sl_le k) (by decide)) (kk _ (og_u (okp_Sa hok hi hk h1 rfl)))
theorem pgS_alen (hC : pv_C κ p R s m args meth c y cc nL Ts rt A) {v : Int32} (hdg : decode cc pc = .ok (.arraylength, 1)) (k : Nat) (hok : pv_ok κ x L f (va_up Z i z)) (hi : i < 9) (hk : k < 14) (h1 : k ≠ 1) (hv : nI (pv_sl k) = v) (kk : pv_G κ p l e R s m args below meth c Q A nL cells slots L f (pc + 1) vs (.int v :: st)) : pv_G κ p l e R s m args below meth c Q A nL cells slots L f pc vs (.ref (x i k) :: st) :=
  pg_alen hC hdg 1 rfl (ok_Sm hok hi k hk) (og_Sa hok hi k hk h1) hv kk
theorem ogz_9 {k : Nat} {g : Nat → va_E} {v : Int32} (hk : k = 1) (h : pv_ok κ x L g (va_up Z 9 (va_up z k (fun _ => v)))) : pv_ok κ x L g (va_up Z 9 (zu z k 0 v)) := by
  refine ⟨h.1, h.2.1, fun a b hb => ?_⟩
  rw [h.2.2 a b hb]
  by_cases e : a = 9
  · subst e
    simp only [va_up_e]
    have hb2 : b < 2 := hb
    rcases (show b = 0 ∨ b = 1 by omega) with rfl | rfl <;> rcases hk with rfl <;> rfl
  · simp [va_up, e]
theorem ogz_10 {k : Nat} {g : Nat → va_E} {v : Int32} (hk : k = 0 ∨ k = 1 ∨ k = 2 ∨ k = 3 ∨ k = 4) (h : pv_ok κ x L g (va_up Z 10 (va_up z k (fun _ => v)))) : pv_ok κ x L g (va_up Z 10 (zu z k 0 v)) := by
  refine ⟨h.1, h.2.1, fun a b hb => ?_⟩
  rw [h.2.2 a b hb]
  by_cases e : a = 10
  · subst e
    simp only [va_up_e]
    have hb2 : b < 1 := hb
    rcases (show b = 0 by omega) with rfl <;> rcases hk with rfl | rfl | rfl | rfl | rfl <;> rfl
  · simp [va_up, e]
theorem ogz_12 {k : Nat} {g : Nat → va_E} {v : Int32} (hk : k = 1 ∨ k = 2) (h : pv_ok κ x L g (va_up Z 12 (va_up z k (fun _ => v)))) : pv_ok κ x L g (va_up Z 12 (zu z k 0 v)) := by
  refine ⟨h.1, h.2.1, fun a b hb => ?_⟩
  rw [h.2.2 a b hb]
  by_cases e : a = 12
  · subst e
    simp only [va_up_e]
    have hb2 : b < 5 := hb
    rcases (show b = 0 ∨ b = 1 ∨ b = 2 ∨ b = 3 ∨ b = 4 by omega) with rfl | rfl | rfl | rfl | rfl <;> rcases hk with rfl | rfl <;> rfl
  · simp [va_up, e]
theorem pgP_geta (hC : pv_C κ p R s m args meth c y cc nL Ts rt A) {index : Nat} (hdg : decode cc pc = .ok (.getfield index, 3)) (k : Nat) (hlink : Cond.fieldLink y.cls index RX1 (TX1 k).2.1 (TX1 k).2.2.1 ∈ Ts) (hin : ∀ w ∈ wsX10, w ∈ Ts) (hok : pv_ok κ x L f (va_up Z 9 z)) (hk : k = 0) (kk : pv_G κ p l e R s m args below meth c Q A nL cells slots L f (pc + 3) vs (.ref (x 9 k) :: st)) : pv_G κ p l e R s m args below meth c Q A nL cells slots L f pc vs (.ref (x 9 1) :: st) := by
  subst hk <;> exact pg_get hC hdg _ hin hlink (ok_mem hok (by decide)) (ok_Po hok) rfl (by decide) rfl rfl kk
theorem pgP_geti (hC : pv_C κ p R s m args meth c y cc nL Ts rt A) {index : Nat} {v : Int32} (hdg : decode cc pc = .ok (.getfield index, 3)) (k : Nat) (hlink : Cond.fieldLink y.cls index RX1 (TX1 k).2.1 (TX1 k).2.2.1 ∈ Ts) (hin : ∀ w ∈ wsX10, w ∈ Ts) (hok : pv_ok κ x L f (va_up Z 9 z)) (hk : k = 1) (hv : z k 0 = v) (kk : pv_G κ p l e R s m args below meth c Q A nL cells slots L f (pc + 3) vs (.int v :: st)) : pv_G κ p l e R s m args below meth c Q A nL cells slots L f pc vs (.ref (x 9 1) :: st) := by
  subst hv
  subst hk <;> exact pg_get hC hdg _ hin hlink (ok_mem hok (by decide)) (ok_Po hok) rfl (by decide) rfl rfl kk
theorem pgP_puti (hC : pv_C κ p R s m args meth c y cc nL Ts rt A) {index : Nat} {v : Int32} (hdg : decode cc pc = .ok (.putfield index, 3)) (k : Nat) (hlink : Cond.fieldLink y.cls index RX1 (TX1 k).2.1 (TX1 k).2.2.1 ∈ Ts) (hin : ∀ w ∈ wsX10, w ∈ Ts) (hok : pv_ok κ x L f (va_up Z 9 z)) (hk : k = 1) (kk : ∀ f2 : Nat → va_E, pv_ok κ x L f2 (va_up Z 9 (zu z k 0 v)) → pv_G κ p l e R s m args below meth c Q A nL cells slots L f2 (pc + 3) vs st) : pv_G κ p l e R s m args below meth c Q A nL cells slots L f pc vs (.int v :: .ref (x 9 1) :: st) := by
  subst hk
  · refine pg_put (ty := .int) hC hdg 1 hin tyX1 tyX1_ok nmX1 hlink (ok_mem hok (by decide)) (ok_Po hok) rfl (by decide) rfl rfl (by decide +kernel) rfl rfl (Nat.le_of_ble_eq_true rfl) (kk _ ?_)
    exact ogz_9 (by decide) (og_u (okp_Po hok v))
theorem pgP_cald (hC : pv_C κ p R s m args meth c y cc nL Ts rt A) {ix v : Int32} (hdg : decode cc pc = .ok (.caload, 1)) (j : Nat) (hok : pv_ok κ x L f (va_up Z 9 z)) (hix : ix = nI j) (hj : j < 60) (hv : z 0 j = v) (kk : pv_G κ p l e R s m args below meth c Q A nL cells slots L f (pc + 1) vs (.int v :: st)) : pv_G κ p l e R s m args below meth c Q A nL cells slots L f pc vs (.int ix :: .ref (x 9 0) :: st) :=
  pg_cald hC hdg j (ok_mem hok (by decide)) (ok_Pa hok) hix hj (by decide) hv kk
theorem pgP_cast (hC : pv_C κ p R s m args meth c y cc nL Ts rt A) {ix v : Int32} (hdg : decode cc pc = .ok (.castore, 1)) (j : Nat) (hok : pv_ok κ x L f (va_up Z 9 z)) (hix : ix = nI j) (hj : j < 60) (hx : vp_nar .char v = v) (kk : ∀ f2 : Nat → va_E, pv_ok κ x L f2 (va_up Z 9 (zu z 0 j v)) → pv_G κ p l e R s m args below meth c Q A nL cells slots L f2 (pc + 1) vs st) : pv_G κ p l e R s m args below meth c Q A nL cells slots L f pc vs (.int v :: .int ix :: .ref (x 9 0) :: st) :=
  pg_cast hC hdg j (ok_mem hok (by decide)) (ok_Pa hok) hix hj (by decide) hx (kk _ (og_u (okp_Pa hok)))
theorem pgR_geti (hC : pv_C κ p R s m args meth c y cc nL Ts rt A) {index : Nat} {v : Int32} (hdg : decode cc pc = .ok (.getfield index, 3)) (k : Nat) (hlink : Cond.fieldLink y.cls index RX2 (TX2 k).2.1 (TX2 k).2.2.1 ∈ Ts) (hin : ∀ w ∈ wsX20, w ∈ Ts) (hok : pv_ok κ x L f (va_up Z 10 z)) (hk : k = 0 ∨ k = 1 ∨ k = 2 ∨ k = 3 ∨ k = 4) (hv : z k 0 = v) (kk : pv_G κ p l e R s m args below meth c Q A nL cells slots L f (pc + 3) vs (.int v :: st)) : pv_G κ p l e R s m args below meth c Q A nL cells slots L f pc vs (.ref (x 10 0) :: st) := by
  subst hv
  rcases hk with rfl | rfl | rfl | rfl | rfl <;> exact pg_get hC hdg _ hin hlink (ok_mem hok (by decide)) (ok_Ro hok) rfl (by decide) rfl rfl kk
theorem pgR_puti (hC : pv_C κ p R s m args meth c y cc nL Ts rt A) {index : Nat} {v : Int32} (hdg : decode cc pc = .ok (.putfield index, 3)) (k : Nat) (hlink : Cond.fieldLink y.cls index RX2 (TX2 k).2.1 (TX2 k).2.2.1 ∈ Ts) (hin : ∀ w ∈ wsX20, w ∈ Ts) (hok : pv_ok κ x L f (va_up Z 10 z)) (hk : k = 0 ∨ k = 1 ∨ k = 2 ∨ k = 3 ∨ k = 4) (kk : ∀ f2 : Nat → va_E, pv_ok κ x L f2 (va_up Z 10 (zu z k 0 v)) → pv_G κ p l e R s m args below meth c Q A nL cells slots L f2 (pc + 3) vs st) : pv_G κ p l e R s m args below meth c Q A nL cells slots L f pc vs (.int v :: .ref (x 10 0) :: st) := by
  rcases hk with rfl | rfl | rfl | rfl | rfl
  · refine pg_put (ty := .int) hC hdg 0 hin tyX2 tyX2_ok nmX2 hlink (ok_mem hok (by decide)) (ok_Ro hok) rfl (by decide) rfl rfl (by decide +kernel) rfl rfl (Nat.le_of_ble_eq_true rfl) (kk _ ?_)
    exact ogz_10 (by decide) (og_u (okp_R0 hok v))
  · refine pg_put (ty := .int) hC hdg 1 hin tyX2 tyX2_ok nmX2 hlink (ok_mem hok (by decide)) (ok_Ro hok) rfl (by decide) rfl rfl (by decide +kernel) rfl rfl (Nat.le_of_ble_eq_true rfl) (kk _ ?_)
    exact ogz_10 (by decide) (og_u (okp_R1 hok v))
  · refine pg_put (ty := .int) hC hdg 2 hin tyX2 tyX2_ok nmX2 hlink (ok_mem hok (by decide)) (ok_Ro hok) rfl (by decide) rfl rfl (by decide +kernel) rfl rfl (Nat.le_of_ble_eq_true rfl) (kk _ ?_)
    exact ogz_10 (by decide) (og_u (okp_R2 hok v))
  · refine pg_put (ty := .int) hC hdg 3 hin tyX2 tyX2_ok nmX2 hlink (ok_mem hok (by decide)) (ok_Ro hok) rfl (by decide) rfl rfl (by decide +kernel) rfl rfl (Nat.le_of_ble_eq_true rfl) (kk _ ?_)
    exact ogz_10 (by decide) (og_u (okp_R3 hok v))
  · refine pg_put (ty := .int) hC hdg 4 hin tyX2 tyX2_ok nmX2 hlink (ok_mem hok (by decide)) (ok_Ro hok) rfl (by decide) rfl rfl (by decide +kernel) rfl rfl (Nat.le_of_ble_eq_true rfl) (kk _ ?_)
    exact ogz_10 (by decide) (og_u (okp_R4 hok v))
theorem pgH_geta (hC : pv_C κ p R s m args meth c y cc nL Ts rt A) {index : Nat} (hdg : decode cc pc = .ok (.getfield index, 3)) (hlink : Cond.fieldLink y.cls index RX0 (TX0 0).2.1 (TX0 0).2.2.1 ∈ Ts) (hin : ∀ w ∈ wsX00, w ∈ Ts) (hok : pv_ok κ x L f Z) (kk : pv_G κ p l e R s m args below meth c Q A nL cells slots L f (pc + 3) vs (.ref (x 12 1) :: st)) : pv_G κ p l e R s m args below meth c Q A nL cells slots L f pc vs (.ref (x 12 0) :: st) :=
  pg_get hC hdg 0 hin hlink (ok_mem hok (by decide)) (ok_Ho hok) rfl (by decide) rfl rfl kk
theorem pgH_aldq (hC : pv_C κ p R s m args meth c y cc nL Ts rt A) {ix : Int32} (hdg : decode cc pc = .ok (.aaload, 1)) (j : Nat) (hok : pv_ok κ x L f Z) (hix : ix = nI j) (hj : j < 6) (kk : pv_G κ p l e R s m args below meth c Q A nL cells slots L f (pc + 1) vs (.ref (x (1 + j) 1) :: st)) : pv_G κ p l e R s m args below meth c Q A nL cells slots L f pc vs (.int ix :: .ref (x 12 1) :: st) :=
  pg_aldq hC hdg j (ok_mem hok (by decide)) (ok_Hs hok) hix hj (by decide) rfl kk
theorem pgX_aldq (hC : pv_C κ p R s m args meth c y cc nL Ts rt A) {ix : Int32} (hdg : decode cc pc = .ok (.aaload, 1)) (j : Nat) (hok : pv_ok κ x L f Z) (hix : ix = nI j) (hj : j < 2) (kk : pv_G κ p l e R s m args below meth c Q A nL cells slots L f (pc + 1) vs (.ref (x (7 + j) 1) :: st)) : pv_G κ p l e R s m args below meth c Q A nL cells slots L f pc vs (.int ix :: .ref (x 12 3) :: st) :=
  pg_aldq hC hdg j (ok_mem hok (by decide)) (ok_Xs hok) hix hj (by decide) rfl kk
theorem pgH_geti (hC : pv_C κ p R s m args meth c y cc nL Ts rt A) {index : Nat} {v : Int32} (hdg : decode cc pc = .ok (.getfield index, 3)) (k : Nat) (hlink : Cond.fieldLink y.cls index RX0 (TX0 k).2.1 (TX0 k).2.2.1 ∈ Ts) (hin : ∀ w ∈ wsX00, w ∈ Ts) (hok : pv_ok κ x L f (va_up Z 12 z)) (hk : k = 1 ∨ k = 2) (hv : z k 0 = v) (kk : pv_G κ p l e R s m args below meth c Q A nL cells slots L f (pc + 3) vs (.int v :: st)) : pv_G κ p l e R s m args below meth c Q A nL cells slots L f pc vs (.ref (x 12 0) :: st) := by
  subst hv
  rcases hk with rfl | rfl <;> exact pg_get hC hdg _ hin hlink (ok_mem hok (by decide)) (ok_Ho hok) rfl (by decide) rfl rfl kk
theorem pgH_puti (hC : pv_C κ p R s m args meth c y cc nL Ts rt A) {index : Nat} {v : Int32} (hdg : decode cc pc = .ok (.putfield index, 3)) (k : Nat) (hlink : Cond.fieldLink y.cls index RX0 (TX0 k).2.1 (TX0 k).2.2.1 ∈ Ts) (hin : ∀ w ∈ wsX00, w ∈ Ts) (hok : pv_ok κ x L f (va_up Z 12 z)) (hk : k = 1 ∨ k = 2) (kk : ∀ f2 : Nat → va_E, pv_ok κ x L f2 (va_up Z 12 (zu z k 0 v)) → pv_G κ p l e R s m args below meth c Q A nL cells slots L f2 (pc + 3) vs st) : pv_G κ p l e R s m args below meth c Q A nL cells slots L f pc vs (.int v :: .ref (x 12 0) :: st) := by
  rcases hk with rfl | rfl
  · refine pg_put (ty := .int) hC hdg 1 hin tyX0 tyX0_ok nmX0 hlink (ok_mem hok (by decide)) (ok_Ho hok) rfl (by decide) rfl rfl (by decide +kernel) rfl rfl (Nat.le_of_ble_eq_true rfl) (kk _ ?_)
    exact ogz_12 (by decide) (og_u (okp_H1 hok v))
  · refine pg_put (ty := .int) hC hdg 2 hin tyX0 tyX0_ok nmX0 hlink (ok_mem hok (by decide)) (ok_Ho hok) rfl (by decide) rfl rfl (by decide +kernel) rfl rfl (Nat.le_of_ble_eq_true rfl) (kk _ ?_)
    exact ogz_12 (by decide) (og_u (okp_H2 hok v))
theorem pgX_get0 (hC : pv_C κ p R s m args meth c y cc nL Ts rt A) {index : Nat} (hdg : decode cc pc = .ok (.getfield index, 3)) (hlink : Cond.fieldLink y.cls index RX4 (TX4 0).2.1 (TX4 0).2.2.1 ∈ Ts) (hin : ∀ w ∈ wsX40, w ∈ Ts) (hok : pv_ok κ x L f Z) (kk : pv_G κ p l e R s m args below meth c Q A nL cells slots L f (pc + 3) vs (.ref (x 0 1) :: st)) : pv_G κ p l e R s m args below meth c Q A nL cells slots L f pc vs (.ref (x 12 2) :: st) :=
  pg_get hC hdg 0 hin hlink (ok_mem hok (by decide)) (ok_Xo hok) rfl (by decide) rfl rfl kk
theorem pgX_get1 (hC : pv_C κ p R s m args meth c y cc nL Ts rt A) {index : Nat} (hdg : decode cc pc = .ok (.getfield index, 3)) (hlink : Cond.fieldLink y.cls index RX4 (TX4 1).2.1 (TX4 1).2.2.1 ∈ Ts) (hin : ∀ w ∈ wsX40, w ∈ Ts) (hok : pv_ok κ x L f Z) (kk : pv_G κ p l e R s m args below meth c Q A nL cells slots L f (pc + 3) vs (.ref (x 12 0) :: st)) : pv_G κ p l e R s m args below meth c Q A nL cells slots L f pc vs (.ref (x 12 2) :: st) :=
  pg_get hC hdg 1 hin hlink (ok_mem hok (by decide)) (ok_Xo hok) rfl (by decide) rfl rfl kk
theorem pgX_get2 (hC : pv_C κ p R s m args meth c y cc nL Ts rt A) {index : Nat} (hdg : decode cc pc = .ok (.getfield index, 3)) (hlink : Cond.fieldLink y.cls index RX4 (TX4 2).2.1 (TX4 2).2.2.1 ∈ Ts) (hin : ∀ w ∈ wsX40, w ∈ Ts) (hok : pv_ok κ x L f Z) (kk : pv_G κ p l e R s m args below meth c Q A nL cells slots L f (pc + 3) vs (.ref (x 12 3) :: st)) : pv_G κ p l e R s m args below meth c Q A nL cells slots L f pc vs (.ref (x 12 2) :: st) :=
  pg_get hC hdg 2 hin hlink (ok_mem hok (by decide)) (ok_Xo hok) rfl (by decide) rfl rfl kk
theorem pgX_get3 (hC : pv_C κ p R s m args meth c y cc nL Ts rt A) {index : Nat} (hdg : decode cc pc = .ok (.getfield index, 3)) (hlink : Cond.fieldLink y.cls index RX4 (TX4 3).2.1 (TX4 3).2.2.1 ∈ Ts) (hin : ∀ w ∈ wsX40, w ∈ Ts) (hok : pv_ok κ x L f Z) (kk : pv_G κ p l e R s m args below meth c Q A nL cells slots L f (pc + 3) vs (.ref (x 12 4) :: st)) : pv_G κ p l e R s m args below meth c Q A nL cells slots L f pc vs (.ref (x 12 2) :: st) :=
  pg_get hC hdg 3 hin hlink (ok_mem hok (by decide)) (ok_Xo hok) rfl (by decide) rfl rfl kk
theorem pgX_get4 (hC : pv_C κ p R s m args meth c y cc nL Ts rt A) {index : Nat} (hdg : decode cc pc = .ok (.getfield index, 3)) (hlink : Cond.fieldLink y.cls index RX4 (TX4 4).2.1 (TX4 4).2.2.1 ∈ Ts) (hin : ∀ w ∈ wsX40, w ∈ Ts) (hok : pv_ok κ x L f Z) (kk : pv_G κ p l e R s m args below meth c Q A nL cells slots L f (pc + 3) vs (.ref (x 9 1) :: st)) : pv_G κ p l e R s m args below meth c Q A nL cells slots L f pc vs (.ref (x 12 2) :: st) :=
  pg_get hC hdg 4 hin hlink (ok_mem hok (by decide)) (ok_Xo hok) rfl (by decide) rfl rfl kk
theorem pgX_get5 (hC : pv_C κ p R s m args meth c y cc nL Ts rt A) {index : Nat} (hdg : decode cc pc = .ok (.getfield index, 3)) (hlink : Cond.fieldLink y.cls index RX4 (TX4 5).2.1 (TX4 5).2.2.1 ∈ Ts) (hin : ∀ w ∈ wsX40, w ∈ Ts) (hok : pv_ok κ x L f Z) (kk : pv_G κ p l e R s m args below meth c Q A nL cells slots L f (pc + 3) vs (.ref (x 10 0) :: st)) : pv_G κ p l e R s m args below meth c Q A nL cells slots L f pc vs (.ref (x 12 2) :: st) :=
  pg_get hC hdg 5 hin hlink (ok_mem hok (by decide)) (ok_Xo hok) rfl (by decide) rfl rfl kk
theorem pgX_zald (hC : pv_C κ p R s m args meth c y cc nL Ts rt A) {ix v : Int32} (hdg : decode cc pc = .ok (.baload, 1)) (j : Nat) (hok : pv_ok κ x L f Z) (hix : ix = nI j) (hj : j < 2) (hv : Z 12 4 j = v) (kk : pv_G κ p l e R s m args below meth c Q A nL cells slots L f (pc + 1) vs (.int v :: st)) : pv_G κ p l e R s m args below meth c Q A nL cells slots L f pc vs (.int ix :: .ref (x 12 4) :: st) :=
  pg_zald hC hdg j (ok_mem hok (by decide)) (ok_Xb hok) hix hj (by decide) hv kk
theorem pgX_zast (hC : pv_C κ p R s m args meth c y cc nL Ts rt A) {ix v : Int32} (hdg : decode cc pc = .ok (.bastore, 1)) (j : Nat) (hok : pv_ok κ x L f (va_up Z 12 z)) (hix : ix = nI j) (hj : j < 2) (hx : vp_nar .boolean v = v) (kk : ∀ f2 : Nat → va_E, pv_ok κ x L f2 (va_up Z 12 (zu z 4 j v)) → pv_G κ p l e R s m args below meth c Q A nL cells slots L f2 (pc + 1) vs st) : pv_G κ p l e R s m args below meth c Q A nL cells slots L f pc vs (.int v :: .int ix :: .ref (x 12 4) :: st) :=
  pg_zast hC hdg j (ok_mem hok (by decide)) (ok_Xb hok) hix hj (by decide) hx (kk _ (og_u (okp_X4 hok)))
end PVT
end
section
def pv_R (L : List Nat) (f : Nat → va_E) (v : Int32) : Int32 → List Nat × (Nat → va_E) → Prop := fun r u => r = v ∧ u = (L, f)
def pv_Wi (κ : pv_Kt) (x : Nat → Nat → Nat) (L : List Nat) (Z : Nat → Nat → Nat → Int32) (v : Int32) : Int32 → List Nat × (Nat → va_E) → Prop := fun r u => r = v ∧ u.1 = L ∧ pv_ok κ x L u.2 Z
def pv_Wv (κ : pv_Kt) (x : Nat → Nat → Nat) (L : List Nat) (Z : Nat → Nat → Nat → Int32) : List Nat × (Nat → va_E) → Prop := fun u => u.1 = L ∧ pv_ok κ x L u.2 Z
def pv_Ei (κ : pv_Kt) (x : Nat → Nat → Nat) (L : List Nat) (Φ : Int32 → (Nat → Nat → Nat → Int32) → Prop) : Int32 → List Nat × (Nat → va_E) → Prop := fun r u => u.1 = L ∧ ∃ Z, pv_ok κ x L u.2 Z ∧ Φ r Z
def pv_Ev (κ : pv_Kt) (x : Nat → Nat → Nat) (L : List Nat) (Φ : (Nat → Nat → Nat → Int32) → Prop) : List Nat × (Nat → va_E) → Prop := fun u => u.1 = L ∧ ∃ Z, pv_ok κ x L u.2 Z ∧ Φ Z
theorem ogI {κ : pv_Kt} {x : Nat → Nat → Nat} {L : List Nat} {f : Nat → va_E} {Z : Nat → Nat → Nat → Int32} (hok : pv_ok κ x L f Z) (i : Nat) : pv_ok κ x L f (va_up Z i (Z i)) := by rw [va_up_i]; exact hok
section PVU
variable {κ : pv_Kt} {p : Program} {l : Launch} {e : Env} {R : Room} {s : State} {m : MethodId} {args : Array Value} {below : List Frame} {meth : Method} {c : Code} {Q : State → Prop} {A : Nat → Prop} {nL : Nat} {cells slots : Nat} {L : List Nat} {f : Nat → va_E} {pc : Nat} {vs : List (Nat × Value)} {st : List Value}
variable {y : MethodName} {cc : ByteArray} {Ts : List Cond} {rt : Option FieldType} {x : Nat → Nat → Nat} {Z2 : Nat → Nat → Nat → Int32}
theorem pg_callVRi (hC : pv_C κ p R s m args meth c y cc nL Ts rt A) {y2 : MethodName} {ws2 : List Cond} {rm2 : Room} {bytes : ByteArray} {maxL : Nat} {ret : Option FieldType} {n index ci b : Nat} {C2 : String} {fs : List Value} {r0 : vw_C} {As rest : List Value} {v : Int32} (hdg : decode cc pc = .ok (.invokevirtual index, 3)) (hM : pv_Mi l κ y2 ws2 rm2 L f (.ref b :: As) 0 0 (pv_R L f v)) (cw : CallW R s args y.cls C2 index y2 bytes maxL ret ws2 rm2 0 0 n) (hL : b ∈ L) (hfb : f b = .inr (ci, fs)) (hcl : vwCl[ci]? = some r0) (hr0 : r0.1 = C2) (hn : As.length = n) (hst : st = As.reverse ++ .ref b :: rest) (hWt : (rest.map fun v => v.category).sum ≤ 8) (hc : cells ≤ R.cells) (hs : slots ≤ R.slots) (kk : pv_G κ p l e R s m args below meth c Q A nL cells slots L f (pc + 3) vs (.int v :: rest)) : pv_G κ p l e R s m args below meth c Q A nL cells slots L f pc vs st := pg_callVi hC hdg hM cw hL hfb hcl hr0 hn hst hWt ⟨hc, hs⟩ (fun r u hu => by obtain ⟨rfl, rfl⟩ := hu; exact kk)
theorem pg_callVWi (hC : pv_C κ p R s m args meth c y cc nL Ts rt A) {y2 : MethodName} {ws2 : List Cond} {rm2 : Room} {bytes : ByteArray} {maxL : Nat} {ret : Option FieldType} {n index ci b : Nat} {C2 : String} {fs : List Value} {r0 : vw_C} {As rest : List Value} {v : Int32} (hdg : decode cc pc = .ok (.invokevirtual index, 3)) (hM : pv_Mi l κ y2 ws2 rm2 L f (.ref b :: As) 0 0 (pv_Wi κ x L Z2 v)) (cw : CallW R s args y.cls C2 index y2 bytes maxL ret ws2 rm2 0 0 n) (hL : b ∈ L) (hfb : f b = .inr (ci, fs)) (hcl : vwCl[ci]? = some r0) (hr0 : r0.1 = C2) (hn : As.length = n) (hst : st = As.reverse ++ .ref b :: rest) (hWt : (rest.map fun v => v.category).sum ≤ 8) (hc : cells ≤ R.cells) (hs : slots ≤ R.slots) (kk : ∀ f2 : Nat → va_E, pv_ok κ x L f2 Z2 → pv_G κ p l e R s m args below meth c Q A nL cells slots L f2 (pc + 3) vs (.int v :: rest)) : pv_G κ p l e R s m args below meth c Q A nL cells slots L f pc vs st := pg_callVi hC hdg hM cw hL hfb hcl hr0 hn hst hWt ⟨hc, hs⟩ (fun r u hu => by obtain ⟨L2, f2⟩ := u; obtain ⟨rfl, h1, h2⟩ := hu; have h1 : L2 = L := h1; subst h1; exact kk f2 h2)
theorem pg_callVWv (hC : pv_C κ p R s m args meth c y cc nL Ts rt A) {y2 : MethodName} {ws2 : List Cond} {rm2 : Room} {bytes : ByteArray} {maxL : Nat} {ret : Option FieldType} {n index ci b : Nat} {C2 : String} {fs : List Value} {r0 : vw_C} {As rest : List Value} (hdg : decode cc pc = .ok (.invokevirtual index, 3)) (hM : pv_Mv l κ y2 ws2 rm2 L f (.ref b :: As) 0 0 (pv_Wv κ x L Z2)) (cw : CallW R s args y.cls C2 index y2 bytes maxL ret ws2 rm2 0 0 n) (hL : b ∈ L) (hfb : f b = .inr (ci, fs)) (hcl : vwCl[ci]? = some r0) (hr0 : r0.1 = C2) (hn : As.length = n) (hst : st = As.reverse ++ .ref b :: rest) (hWt : (rest.map fun v => v.category).sum ≤ 8) (hc : cells ≤ R.cells) (hs : slots ≤ R.slots) (kk : ∀ f2 : Nat → va_E, pv_ok κ x L f2 Z2 → pv_G κ p l e R s m args below meth c Q A nL cells slots L f2 (pc + 3) vs rest) : pv_G κ p l e R s m args below meth c Q A nL cells slots L f pc vs st := pg_callVv hC hdg hM cw hL hfb hcl hr0 hn hst hWt ⟨hc, hs⟩ (fun u hu => by obtain ⟨L2, f2⟩ := u; obtain ⟨h1, h2⟩ := hu; have h1 : L2 = L := h1; subst h1; exact kk f2 h2)
theorem pg_callVEi (hC : pv_C κ p R s m args meth c y cc nL Ts rt A) {y2 : MethodName} {ws2 : List Cond} {rm2 : Room} {bytes : ByteArray} {maxL : Nat} {ret : Option FieldType} {n index ci b : Nat} {C2 : String} {fs : List Value} {r0 : vw_C} {As rest : List Value} {Φ : Int32 → (Nat → Nat → Nat → Int32) → Prop} (hdg : decode cc pc = .ok (.invokevirtual index, 3)) (hM : pv_Mi l κ y2 ws2 rm2 L f (.ref b :: As) 0 0 (pv_Ei κ x L Φ)) (cw : CallW R s args y.cls C2 index y2 bytes maxL ret ws2 rm2 0 0 n) (hL : b ∈ L) (hfb : f b = .inr (ci, fs)) (hcl : vwCl[ci]? = some r0) (hr0 : r0.1 = C2) (hn : As.length = n) (hst : st = As.reverse ++ .ref b :: rest) (hWt : (rest.map fun v => v.category).sum ≤ 8) (hc : cells ≤ R.cells) (hs : slots ≤ R.slots) (kk : ∀ (r : Int32) (f2 : Nat → va_E) (Z3 : Nat → Nat → Nat → Int32), pv_ok κ x L f2 Z3 → Φ r Z3 → pv_G κ p l e R s m args below meth c Q A nL cells slots L f2 (pc + 3) vs (.int r :: rest)) : pv_G κ p l e R s m args below meth c Q A nL cells slots L f pc vs st := pg_callVi hC hdg hM cw hL hfb hcl hr0 hn hst hWt ⟨hc, hs⟩ (fun r u hu => by obtain ⟨L2, f2⟩ := u; obtain ⟨h1, Z3, h2, h3⟩ := hu; have h1 : L2 = L := h1; subst h1; exact kk r f2 Z3 h2 h3)
theorem pg_callVEv (hC : pv_C κ p R s m args meth c y cc nL Ts rt A) {y2 : MethodName} {ws2 : List Cond} {rm2 : Room} {bytes : ByteArray} {maxL : Nat} {ret : Option FieldType} {n index ci b : Nat} {C2 : String} {fs : List Value} {r0 : vw_C} {As rest : List Value} {Φ : (Nat → Nat → Nat → Int32) → Prop} (hdg : decode cc pc = .ok (.invokevirtual index, 3)) (hM : pv_Mv l κ y2 ws2 rm2 L f (.ref b :: As) 0 0 (pv_Ev κ x L Φ)) (cw : CallW R s args y.cls C2 index y2 bytes maxL ret ws2 rm2 0 0 n) (hL : b ∈ L) (hfb : f b = .inr (ci, fs)) (hcl : vwCl[ci]? = some r0) (hr0 : r0.1 = C2) (hn : As.length = n) (hst : st = As.reverse ++ .ref b :: rest) (hWt : (rest.map fun v => v.category).sum ≤ 8) (hc : cells ≤ R.cells) (hs : slots ≤ R.slots) (kk : ∀ (f2 : Nat → va_E) (Z3 : Nat → Nat → Nat → Int32), pv_ok κ x L f2 Z3 → Φ Z3 → pv_G κ p l e R s m args below meth c Q A nL cells slots L f2 (pc + 3) vs rest) : pv_G κ p l e R s m args below meth c Q A nL cells slots L f pc vs st := pg_callVv hC hdg hM cw hL hfb hcl hr0 hn hst hWt ⟨hc, hs⟩ (fun u hu => by obtain ⟨L2, f2⟩ := u; obtain ⟨h1, Z3, h2, h3⟩ := hu; have h1 : L2 = L := h1; subst h1; exact kk f2 Z3 h2 h3)
theorem pg_callSRi (hC : pv_C κ p R s m args meth c y cc nL Ts rt A) {y2 : MethodName} {ws2 : List Cond} {rm2 : Room} {bytes : ByteArray} {maxL : Nat} {ret : Option FieldType} {n index : Nat} {As rest : List Value} {v : Int32} (hdg : decode cc pc = .ok (.invokestatic index, 3)) (hM : pv_Mi l κ y2 ws2 rm2 L f As 0 0 (pv_R L f v)) (cw : CallB R s args y.cls index y2 bytes maxL ret ws2 rm2 0 0 n ∧ (Cond.static y2).before args s = true) (hn : As.length = n) (hst : st = As.reverse ++ rest) (hWt : (rest.map fun v => v.category).sum ≤ 8) (hc : cells ≤ R.cells) (hs : slots ≤ R.slots) (kk : pv_G κ p l e R s m args below meth c Q A nL cells slots L f (pc + 3) vs (.int v :: rest)) : pv_G κ p l e R s m args below meth c Q A nL cells slots L f pc vs st := pg_callSi hC hdg hM cw hn hst hWt ⟨hc, hs⟩ (fun r u hu => by obtain ⟨rfl, rfl⟩ := hu; exact kk)
theorem pg_callSWi (hC : pv_C κ p R s m args meth c y cc nL Ts rt A) {y2 : MethodName} {ws2 : List Cond} {rm2 : Room} {bytes : ByteArray} {maxL : Nat} {ret : Option FieldType} {n index : Nat} {As rest : List Value} {v : Int32} (hdg : decode cc pc = .ok (.invokestatic index, 3)) (hM : pv_Mi l κ y2 ws2 rm2 L f As 0 0 (pv_Wi κ x L Z2 v)) (cw : CallB R s args y.cls index y2 bytes maxL ret ws2 rm2 0 0 n ∧ (Cond.static y2).before args s = true) (hn : As.length = n) (hst : st = As.reverse ++ rest) (hWt : (rest.map fun v => v.category).sum ≤ 8) (hc : cells ≤ R.cells) (hs : slots ≤ R.slots) (kk : ∀ f2 : Nat → va_E, pv_ok κ x L f2 Z2 → pv_G κ p l e R s m args below meth c Q A nL cells slots L f2 (pc + 3) vs (.int v :: rest)) : pv_G κ p l e R s m args below meth c Q A nL cells slots L f pc vs st := pg_callSi hC hdg hM cw hn hst hWt ⟨hc, hs⟩ (fun r u hu => by obtain ⟨L2, f2⟩ := u; obtain ⟨rfl, h1, h2⟩ := hu; have h1 : L2 = L := h1; subst h1; exact kk f2 h2)
theorem pg_callSWv (hC : pv_C κ p R s m args meth c y cc nL Ts rt A) {y2 : MethodName} {ws2 : List Cond} {rm2 : Room} {bytes : ByteArray} {maxL : Nat} {ret : Option FieldType} {n index : Nat} {As rest : List Value} (hdg : decode cc pc = .ok (.invokestatic index, 3)) (hM : pv_Mv l κ y2 ws2 rm2 L f As 0 0 (pv_Wv κ x L Z2)) (cw : CallB R s args y.cls index y2 bytes maxL ret ws2 rm2 0 0 n ∧ (Cond.static y2).before args s = true) (hn : As.length = n) (hst : st = As.reverse ++ rest) (hWt : (rest.map fun v => v.category).sum ≤ 8) (hc : cells ≤ R.cells) (hs : slots ≤ R.slots) (kk : ∀ f2 : Nat → va_E, pv_ok κ x L f2 Z2 → pv_G κ p l e R s m args below meth c Q A nL cells slots L f2 (pc + 3) vs rest) : pv_G κ p l e R s m args below meth c Q A nL cells slots L f pc vs st := pg_callSv hC hdg hM cw hn hst hWt ⟨hc, hs⟩ (fun u hu => by obtain ⟨L2, f2⟩ := u; obtain ⟨h1, h2⟩ := hu; have h1 : L2 = L := h1; subst h1; exact kk f2 h2)
theorem pg_callSEi (hC : pv_C κ p R s m args meth c y cc nL Ts rt A) {y2 : MethodName} {ws2 : List Cond} {rm2 : Room} {bytes : ByteArray} {maxL : Nat} {ret : Option FieldType} {n index : Nat} {As rest : List Value} {Φ : Int32 → (Nat → Nat → Nat → Int32) → Prop} (hdg : decode cc pc = .ok (.invokestatic index, 3)) (hM : pv_Mi l κ y2 ws2 rm2 L f As 0 0 (pv_Ei κ x L Φ)) (cw : CallB R s args y.cls index y2 bytes maxL ret ws2 rm2 0 0 n ∧ (Cond.static y2).before args s = true) (hn : As.length = n) (hst : st = As.reverse ++ rest) (hWt : (rest.map fun v => v.category).sum ≤ 8) (hc : cells ≤ R.cells) (hs : slots ≤ R.slots) (kk : ∀ (r : Int32) (f2 : Nat → va_E) (Z3 : Nat → Nat → Nat → Int32), pv_ok κ x L f2 Z3 → Φ r Z3 → pv_G κ p l e R s m args below meth c Q A nL cells slots L f2 (pc + 3) vs (.int r :: rest)) : pv_G κ p l e R s m args below meth c Q A nL cells slots L f pc vs st := pg_callSi hC hdg hM cw hn hst hWt ⟨hc, hs⟩ (fun r u hu => by obtain ⟨L2, f2⟩ := u; obtain ⟨h1, Z3, h2, h3⟩ := hu; have h1 : L2 = L := h1; subst h1; exact kk r f2 Z3 h2 h3)
theorem pg_callSEv (hC : pv_C κ p R s m args meth c y cc nL Ts rt A) {y2 : MethodName} {ws2 : List Cond} {rm2 : Room} {bytes : ByteArray} {maxL : Nat} {ret : Option FieldType} {n index : Nat} {As rest : List Value} {Φ : (Nat → Nat → Nat → Int32) → Prop} (hdg : decode cc pc = .ok (.invokestatic index, 3)) (hM : pv_Mv l κ y2 ws2 rm2 L f As 0 0 (pv_Ev κ x L Φ)) (cw : CallB R s args y.cls index y2 bytes maxL ret ws2 rm2 0 0 n ∧ (Cond.static y2).before args s = true) (hn : As.length = n) (hst : st = As.reverse ++ rest) (hWt : (rest.map fun v => v.category).sum ≤ 8) (hc : cells ≤ R.cells) (hs : slots ≤ R.slots) (kk : ∀ (f2 : Nat → va_E) (Z3 : Nat → Nat → Nat → Int32), pv_ok κ x L f2 Z3 → Φ Z3 → pv_G κ p l e R s m args below meth c Q A nL cells slots L f2 (pc + 3) vs rest) : pv_G κ p l e R s m args below meth c Q A nL cells slots L f pc vs st := pg_callSv hC hdg hM cw hn hst hWt ⟨hc, hs⟩ (fun u hu => by obtain ⟨L2, f2⟩ := u; obtain ⟨h1, Z3, h2, h3⟩ := hu; have h1 : L2 = L := h1; subst h1; exact kk f2 Z3 h2 h3)
theorem pg_callSNRi (hC : pv_C κ p R s m args meth c y cc nL Ts rt A) {y2 : MethodName} {ws2 : List Cond} {rm2 : Room} {bytes : ByteArray} {maxL : Nat} {ret : Option FieldType} {n index : Nat} {host : String} {As rest : List Value} {v : Int32} (hdg : decode cc pc = .ok (.invokestatic index, 3)) (hM : pv_Mi l κ y2 ws2 rm2 L f As 0 0 (pv_R L f v)) (cw : va_CN R s args y.cls index y2 host bytes maxL ret ws2 rm2 0 0 n ∧ (Cond.static y2).before args s = true ∧ True) (hn : As.length = n) (hst : st = As.reverse ++ rest) (hWt : (rest.map fun v => v.category).sum ≤ 8) (hc : cells ≤ R.cells) (hs : slots ≤ R.slots) (kk : pv_G κ p l e R s m args below meth c Q A nL cells slots L f (pc + 3) vs (.int v :: rest)) : pv_G κ p l e R s m args below meth c Q A nL cells slots L f pc vs st := pg_callSNi hC hdg hM cw hn hst hWt ⟨hc, hs⟩ (fun r u hu => by obtain ⟨rfl, rfl⟩ := hu; exact kk)
theorem pg_callSNWi (hC : pv_C κ p R s m args meth c y cc nL Ts rt A) {y2 : MethodName} {ws2 : List Cond} {rm2 : Room} {bytes : ByteArray} {maxL : Nat} {ret : Option FieldType} {n index : Nat} {host : String} {As rest : List Value} {v : Int32} (hdg : decode cc pc = .ok (.invokestatic index, 3)) (hM : pv_Mi l κ y2 ws2 rm2 L f As 0 0 (pv_Wi κ x L Z2 v)) (cw : va_CN R s args y.cls index y2 host bytes maxL ret ws2 rm2 0 0 n ∧ (Cond.static y2).before args s = true ∧ True) (hn : As.length = n) (hst : st = As.reverse ++ rest) (hWt : (rest.map fun v => v.category).sum ≤ 8) (hc : cells ≤ R.cells) (hs : slots ≤ R.slots) (kk : ∀ f2 : Nat → va_E, pv_ok κ x L f2 Z2 → pv_G κ p l e R s m args below meth c Q A nL cells slots L f2 (pc + 3) vs (.int v :: rest)) : pv_G κ p l e R s m args below meth c Q A nL cells slots L f pc vs st := pg_callSNi hC hdg hM cw hn hst hWt ⟨hc, hs⟩ (fun r u hu => by obtain ⟨L2, f2⟩ := u; obtain ⟨rfl, h1, h2⟩ := hu; have h1 : L2 = L := h1; subst h1; exact kk f2 h2)
theorem pg_callSNWv (hC : pv_C κ p R s m args meth c y cc nL Ts rt A) {y2 : MethodName} {ws2 : List Cond} {rm2 : Room} {bytes : ByteArray} {maxL : Nat} {ret : Option FieldType} {n index : Nat} {host : String} {As rest : List Value} (hdg : decode cc pc = .ok (.invokestatic index, 3)) (hM : pv_Mv l κ y2 ws2 rm2 L f As 0 0 (pv_Wv κ x L Z2)) (cw : va_CN R s args y.cls index y2 host bytes maxL ret ws2 rm2 0 0 n ∧ (Cond.static y2).before args s = true ∧ True) (hn : As.length = n) (hst : st = As.reverse ++ rest) (hWt : (rest.map fun v => v.category).sum ≤ 8) (hc : cells ≤ R.cells) (hs : slots ≤ R.slots) (kk : ∀ f2 : Nat → va_E, pv_ok κ x L f2 Z2 → pv_G κ p l e R s m args below meth c Q A nL cells slots L f2 (pc + 3) vs rest) : pv_G κ p l e R s m args below meth c Q A nL cells slots L f pc vs st := pg_callSNv hC hdg hM cw hn hst hWt ⟨hc, hs⟩ (fun u hu => by obtain ⟨L2, f2⟩ := u; obtain ⟨h1, h2⟩ := hu; have h1 : L2 = L := h1; subst h1; exact kk f2 h2)
theorem pg_callSNEi (hC : pv_C κ p R s m args meth c y cc nL Ts rt A) {y2 : MethodName} {ws2 : List Cond} {rm2 : Room} {bytes : ByteArray} {maxL : Nat} {ret : Option FieldType} {n index : Nat} {host : String} {As rest : List Value} {Φ : Int32 → (Nat → Nat → Nat → Int32) → Prop} (hdg : decode cc pc = .ok (.invokestatic index, 3)) (hM : pv_Mi l κ y2 ws2 rm2 L f As 0 0 (pv_Ei κ x L Φ)) (cw : va_CN R s args y.cls index y2 host bytes maxL ret ws2 rm2 0 0 n ∧ (Cond.static y2).before args s = true ∧ True) (hn : As.length = n) (hst : st = As.reverse ++ rest) (hWt : (rest.map fun v => v.category).sum ≤ 8) (hc : cells ≤ R.cells) (hs : slots ≤ R.slots) (kk : ∀ (r : Int32) (f2 : Nat → va_E) (Z3 : Nat → Nat → Nat → Int32), pv_ok κ x L f2 Z3 → Φ r Z3 → pv_G κ p l e R s m args below meth c Q A nL cells slots L f2 (pc + 3) vs (.int r :: rest)) : pv_G κ p l e R s m args below meth c Q A nL cells slots L f pc vs st := pg_callSNi hC hdg hM cw hn hst hWt ⟨hc, hs⟩ (fun r u hu => by obtain ⟨L2, f2⟩ := u; obtain ⟨h1, Z3, h2, h3⟩ := hu; have h1 : L2 = L := h1; subst h1; exact kk r f2 Z3 h2 h3)
theorem pg_callSNEv (hC : pv_C κ p R s m args meth c y cc nL Ts rt A) {y2 : MethodName} {ws2 : List Cond} {rm2 : Room} {bytes : ByteArray} {maxL : Nat} {ret : Option FieldType} {n index : Nat} {host : String} {As rest : List Value} {Φ : (Nat → Nat → Nat → Int32) → Prop} (hdg : decode cc pc = .ok (.invokestatic index, 3)) (hM : pv_Mv l κ y2 ws2 rm2 L f As 0 0 (pv_Ev κ x L Φ)) (cw : va_CN R s args y.cls index y2 host bytes maxL ret ws2 rm2 0 0 n ∧ (Cond.static y2).before args s = true ∧ True) (hn : As.length = n) (hst : st = As.reverse ++ rest) (hWt : (rest.map fun v => v.category).sum ≤ 8) (hc : cells ≤ R.cells) (hs : slots ≤ R.slots) (kk : ∀ (f2 : Nat → va_E) (Z3 : Nat → Nat → Nat → Int32), pv_ok κ x L f2 Z3 → Φ Z3 → pv_G κ p l e R s m args below meth c Q A nL cells slots L f2 (pc + 3) vs rest) : pv_G κ p l e R s m args below meth c Q A nL cells slots L f pc vs st := pg_callSNv hC hdg hM cw hn hst hWt ⟨hc, hs⟩ (fun u hu => by obtain ⟨L2, f2⟩ := u; obtain ⟨h1, Z3, h2, h3⟩ := hu; have h1 : L2 = L := h1; subst h1; exact kk f2 Z3 h2 h3)
end PVU
end
section
section PVL
variable {κ : pv_Kt} {p : Program} {l : Launch} {e : Env} {R : Room} {s : State} {m : MethodId} {args : Array Value} {below : List Frame} {meth : Method} {c : Code} {Q : State → Prop} {A : Nat → Prop} {nL : Nat} {cells slots : Nat} {L : List Nat} {pc : Nat}
/-- a loop: a state that falls -/
theorem pg_loop {σ : Type} (I : σ → Prop) (μ : σ → Nat) (VS : σ → List (Nat × Value)) (FF : σ → Nat → va_E) (step : ∀ q, I q → (∀ q2, I q2 → μ q2 < μ q → pv_G κ p l e R s m args below meth c Q A nL cells slots L (FF q2) pc (VS q2) []) → pv_G κ p l e R s m args below meth c Q A nL cells slots L (FF q) pc (VS q) []) (q0 : σ) (h0 : I q0) : pv_G κ p l e R s m args below meth c Q A nL cells slots L (FF q0) pc (VS q0) [] := by
  have key : ∀ (n : Nat) (q : σ), μ q < n → I q → pv_G κ p l e R s m args below meth c Q A nL cells slots L (FF q) pc (VS q) [] := by
    intro n
    induction n with
    | zero => intro q h; omega
    | succ n ih => exact fun q h hI => step q hI (fun q2 h2 hm => ih q2 (by omega) h2)
  exact key (μ q0 + 1) q0 (Nat.lt_succ_self _) h0
end PVL
theorem tab_cases (x : Int32) (lo n : Nat) (hn : n < 2 ^ 30) : (∃ j : Nat, lo ≤ j ∧ j ≤ n ∧ x = nI j) ∨ (x.toInt < (lo : Int) ∨ (n : Int) < x.toInt) := by
  by_cases h0 : x.toInt < (lo : Int)
  · exact Or.inr (Or.inl h0)
  · by_cases h1 : (n : Int) < x.toInt
    · exact Or.inr (Or.inr h1)
    · obtain ⟨j, hj, rfl⟩ := vp_in_of (x := x) (n := n + 1) (vp_in_iff.mpr ⟨by omega, by omega⟩) (by omega)
      rw [nI_toInt (by omega)] at h0
      exact Or.inl ⟨j, by omega, by omega, rfl⟩
section PVL2
variable {κ : pv_Kt} {p : Program} {l : Launch} {e : Env} {R : Room} {s : State} {m : MethodId} {args : Array Value} {below : List Frame} {meth : Method} {c : Code} {Q : State → Prop} {A : Nat → Prop} {nL : Nat} {cells slots : Nat} {L : List Nat} {f : Nat → va_E} {pc : Nat} {vs vs' : List (Nat × Value)} {st : List Value}
theorem pg_vs (h : vs = vs') (kk : pv_G κ p l e R s m args below meth c Q A nL cells slots L f pc vs' st) : pv_G κ p l e R s m args below meth c Q A nL cells slots L f pc vs st := h ▸ kk
end PVL2
end
section
section PVCP
variable {κ : pv_Kt} {p : Program} {l : Launch} {e : Env} {R : Room} {s : State} {m : MethodId} {args : Array Value} {below : List Frame} {meth : Method} {c : Code} {Q : State → Prop} {A : Nat → Prop} {nL : Nat} {cells slots : Nat} {L : List Nat} {f : Nat → va_E} {pc : Nat} {vs : List (Nat × Value)} {st : List Value}
variable {y : MethodName} {cc : ByteArray} {Ts : List Cond} {rt : Option FieldType}
/-- a row of ints is copied into another of the pool -/
theorem pg_copyi (hC : pv_C κ p R s m args meth c y cc nL Ts rt A) {index a0 a n0 n1 : Nat} {r0 r1 : Nat → Int32} (hdg : decode cc pc = .ok (.invokestatic index, 3)) (h1 : Cond.methodLink y.cls index arraycopyName ∈ Ts) (h2 : Cond.native arraycopyName ∈ Ts) (h3 : Cond.static arraycopyName ∈ Ts) (h4 : Cond.initialized "java/lang/System" ∈ Ts) (hL0 : a0 ∈ L) (hf0 : f a0 = .inl (κ.2.1 1, n0, .inl r0)) (hL1 : a ∈ L) (hf1 : f a = .inl (κ.2.1 1, n1, .inl r1)) (n : Nat) (hn0 : n ≤ n0) (hn1 : n ≤ n1) (hnb : n < 2 ^ 31) (hfr : 1 ≤ R.frames) (hlo : (st.map fun v => v.category).sum + (nativeFrameWords "java/lang/System" "arraycopy" 5 + 11) ≤ R.locals) (kk : pv_G κ p l e R s m args below meth c Q A nL cells slots L (va_up f a (.inl (κ.2.1 1, n1, .inl (va_cpy r0 r1 0 0 n)))) (pc + 3) vs st) : pv_G κ p l e R s m args below meth c Q A nL cells slots L f pc vs (.int (nI n) :: .int 0 :: .ref a :: .int 0 :: .ref a0 :: st) := fun H locs ls hP hD hS h => by
  obtain ⟨q0, hq0⟩ := pv_at (D := κ.1) (H := H) hL0 hf0
  obtain ⟨q1, hq1⟩ := pv_at (D := κ.1) (H := H) hL1 hf1
  have e1 : (nI n).toNatClampNeg = n := nI_clamp hnb
  have e0 : (0 : Int32).toNatClampNeg = 0 := rfl
  refine va_copyi hC.1 hC.2.1 (hC.2.2.1.trans h.1.symm) hC.2.2.2.1 (hC.2.2.2.2.1 _ h1) (hC.2.2.2.2.1 _ h2) (hC.2.2.2.2.1 _ h3) (hC.2.2.2.2.1 _ h4) hC.2.2.2.2.2.2.2.1 hP hD hS q0 q1 1 1 hq0 hq1 rfl rfl rfl (by decide) (by decide) (nI_pos hnb) (by rw [e1, e0]; omega) (by rw [e1, e0]; omega) (fun _ _ => rfl) hfr hlo hdg (fun H1 locs1 hP1 hD1 hS1 => ?_)
  rw [pv_set hD hL1 hf1 hq1, e1, e0] at hP1 hD1
  exact kk H1 locs1 ls hP1 hD1 hS1 h
theorem pg_callSNx (hC : pv_C κ p R s m args meth c y cc nL Ts rt A) {y2 : MethodName} {ws2 : List Cond} {rm2 : Room} {bytes : ByteArray} {maxL : Nat} {ret : Option FieldType} {n index : Nat} {host : String} {As rest : List Value} {g : Nat → va_E} (hdg : decode cc pc = .ok (.invokestatic index, 3)) (hM : pv_Mv l κ y2 ws2 rm2 L f As 0 0 (fun u => u = (L, g))) (cw : va_CN R s args y.cls index y2 host bytes maxL ret ws2 rm2 0 0 n ∧ (Cond.static y2).before args s = true ∧ True) (hn : As.length = n) (hst : st = As.reverse ++ rest) (hWt : (rest.map fun v => v.category).sum ≤ 8) (hc : cells ≤ R.cells) (hs : slots ≤ R.slots) (kk : pv_G κ p l e R s m args below meth c Q A nL cells slots L g (pc + 3) vs rest) : pv_G κ p l e R s m args below meth c Q A nL cells slots L f pc vs st := pg_callSNv hC hdg hM cw hn hst hWt ⟨hc, hs⟩ (fun u hu => by subst hu; exact kk)
end PVCP
abbrev rmX4_copy : Room := { frames := 1, cells := 0, slots := 0, locals := 40 }
set_option maxHeartbeats 2000000 in
set_option maxRecDepth 20000 in
theorem cX4_copy_c (l : Launch) {κ : pv_Kt} {L : List Nat} {f : Nat → va_E} {a0 a n : Nat} {r0 r1 : Nat → Int32} (hn : n < 2 ^ 31) (hL0 : a0 ∈ L) (hf0 : f a0 = .inl (κ.2.1 1, n, .inl r0)) (hL1 : a ∈ L) (hf1 : f a = .inl (κ.2.1 1, n, .inl r1)) : pv_Mv l κ yX4_copy wsX4_copy rmX4_copy L f [.ref a0, .ref a] 0 0 (fun u => u = (L, va_up f a (.inl (κ.2.1 1, n, .inl (va_cpy r0 r1 0 0 n))))) := by
  refine pv_startV (cc := cX4_copy) (maxL := 2) (ret := none) (by decide) rfl (Nat.le_of_ble_eq_true rfl) (fun A0 P0 E0 S0 M0 a9 B0 T0 C0 hC => ?_)
  refine pg_sub (vs' := [(0, .ref a0), (1, .ref a)]) [0, 1] rfl ?_
  refine pg_aload_n (pc := 0) hC dX4_copy_0 0 rfl rfl ?_
  refine pg_iconst (pc := 1) (v := 0) hC dX4_copy_1 (by decide) ?_
  refine pg_aload_n (pc := 2) hC dX4_copy_2 1 rfl rfl ?_
  refine pg_iconst (pc := 3) (v := 0) hC dX4_copy_3 (by decide) ?_
  refine pg_aload_n (pc := 4) hC dX4_copy_4 0 rfl rfl ?_
  refine pg_alen (pc := 5) (v := nI n) hC dX4_copy_5 1 rfl hL0 hf0 rfl ?_
  refine pg_aload_n (pc := 6) hC dX4_copy_6 1 rfl rfl ?_
  refine pg_alen (pc := 7) (v := nI n) hC dX4_copy_7 1 rfl hL1 hf1 rfl ?_
  refine pg_mmin (pc := 8) hC dX4_copy_8 (List.mem_of_getElem? (i := 1) rfl) (List.mem_of_getElem? (i := 2) rfl) (List.mem_of_getElem? (i := 3) rfl) (List.mem_of_getElem? (i := 4) rfl) (Nat.le_of_ble_eq_true rfl) (Nat.le_of_ble_eq_true rfl) (Nat.zero_le _) (Nat.zero_le _) ?_
  refine pg_top (pc := 11) (x' := nI n) (ite_self _) ?_
  refine pg_copyi (pc := 11) hC dX4_copy_11 (List.mem_of_getElem? (i := 5) rfl) (List.mem_of_getElem? (i := 6) rfl) (List.mem_of_getElem? (i := 7) rfl) (List.mem_of_getElem? (i := 8) rfl) hL0 hf0 hL1 hf1 n (Nat.le_refl _) (Nat.le_refl _) hn (Nat.le_of_ble_eq_true rfl) (Nat.le_of_ble_eq_true rfl) ?_
  exact pg_vret (pc := 14) hC dX4_copy_14 rfl rfl
def zc (z : Nat → Nat → Int32) (k : Nat) (row : Nat → Int32) : Nat → Nat → Int32 := va_up z k row
section PVCQ
variable {κ : pv_Kt} {p : Program} {l : Launch} {e : Env} {R : Room} {s : State} {m : MethodId} {args : Array Value} {below : List Frame} {meth : Method} {c : Code} {Q : State → Prop} {A : Nat → Prop} {nL : Nat} {cells slots : Nat} {L : List Nat} {f : Nat → va_E} {pc : Nat} {vs : List (Nat × Value)} {st : List Value}
variable {y : MethodName} {cc : ByteArray} {Ts : List Cond} {rt : Option FieldType} {x : Nat → Nat → Nat} {Z : Nat → Nat → Nat → Int32} {z : Nat → Nat → Int32} {i j : Nat}
/-- a row of one school into another's -/
theorem pgS_copy (hC : pv_C κ p R s m args meth c y cc nL Ts rt A) {index : Nat} {host : String} (hdg : decode cc pc = .ok (.invokestatic index, 3)) (k : Nat) {n : Nat} {r1 : Nat → Int32} (hok : pv_ok κ x L f (va_up Z i z)) (hi : i < 9) (hj : j < 9) (hji : j ≠ i) (hk : k < 14) (h1 : k ≠ 1) (hn : pv_sl k = n) (hr1 : z k = r1) (cw : va_CN R s args y.cls index yX4_copy host cX4_copy 2 none wsX4_copy rmX4_copy 0 0 2 ∧ (Cond.static yX4_copy).before args s = true ∧ True) (hWt : (st.map fun v => v.category).sum ≤ 8) (hc : cells ≤ R.cells) (hs : slots ≤ R.slots) (kk : ∀ f2 : Nat → va_E, pv_ok κ x L f2 (va_up Z i (zc z k (va_cpy (Z j k) r1 0 0 n))) → pv_G κ p l e R s m args below meth c Q A nL cells slots L f2 (pc + 3) vs st) : pv_G κ p l e R s m args below meth c Q A nL cells slots L f pc vs (.ref (x i k) :: .ref (x j k) :: st) := by
  subst hn; subst hr1
  have hj2 : f (x j k) = .inl (κ.2.1 1, pv_sl k, .inl (Z j k)) := by
    have h := ok_Sa hok hj k hk h1
    rw [va_up_ne _ _ hji] at h
    exact h
  exact pg_callSNx (As := [.ref (x j k), .ref (x i k)]) hC hdg (cX4_copy_c l (Nat.lt_of_le_of_lt (pv_sl_le k) (by decide)) (ok_Sm hok hj k hk) hj2 (ok_Sm hok hi k hk) (og_Sa hok hi k hk h1)) cw rfl rfl hWt hc hs (kk _ (og_u (okp_Sa hok hi hk h1 rfl)))
end PVCQ
end
section
/-! ===== what is made anew: the pool grows ===== -/
section PVNW
variable {κ : pv_Kt} {p : Program} {l : Launch} {e : Env} {R : Room} {s : State} {m : MethodId} {args : Array Value} {below : List Frame} {meth : Method} {c : Code} {Q : State → Prop} {A : Nat → Prop} {nL : Nat} {cells slots : Nat} {L : List Nat} {f : Nat → va_E} {pc : Nat} {vs : List (Nat × Value)} {st : List Value}
variable {y : MethodName} {cc : ByteArray} {Ts : List Cond} {rt : Option FieldType}
theorem pg_new (hC : pv_C κ p R s m args meth c y cc nL Ts rt A) {C2 : String} {T : u_T} {N ci index : Nat} (hdg : decode cc pc = .ok (.new index, 3)) (hin : ∀ w ∈ u_ws C2 T N, w ∈ Ts) (ty0 : Nat → FieldType) (hty : ∀ k, k < N → parseFieldDescriptor (T k).2.2.1 = some (ty0 k)) (hcl : vwCl[ci]? = some (C2, T, N)) (h1 : Cond.classLink y.cls index C2 ∈ Ts) (h2 : Cond.instantiable C2 N ∈ Ts) (h3 : Cond.initialized C2 ∈ Ts) {fs : List Value} (hfs : ∀ j, j < N → defaultValue (ty0 j) = vp_V fs j) (hcs : cells + 1 ≤ R.cells ∧ slots + N ≤ R.slots) (kk : ∀ q : Nat, q ∉ L → pv_G κ p l e R s m args below meth c Q A nL (cells + 1) (slots + N) (L ++ [q]) (va_up f q (.inr (ci, fs))) (pc + 3) vs (.ref q :: st)) : pv_G κ p l e R s m args below meth c Q A nL cells slots L f pc vs st := fun H locs ls hP hD hS h => by
  refine va_new hC.1 hC.2.1 hC.2.2.2.2.1 hin ty0 hty hC.2.2.2.1 (hC.2.2.2.2.1 _ h1) (hC.2.2.2.2.1 _ h2) (hC.2.2.2.2.1 _ h3) hC.2.2.2.2.2.2.2.1 hP hD hS hC.2.2.2.2.2.2.2.2.1 hcl hfs hcs.1 hcs.2 hdg (fun q H1 hP1 hD1 hS1 => ?_)
  have hq : q ∉ L := va_pl_fresh2 (X := []) hD1
  rw [va_pl_push hq] at hP1 hD1
  exact kk q hq H1 locs ls hP1 hD1 hS1 h
theorem pg_newa (hC : pv_C κ p R s m args meth c y cc nL Ts rt A) {atype : ArrayType} {N : Nat} {n : Int32} (hdg : decode cc pc = .ok (.newarray atype, 2)) (k0 : Nat) {ty : FieldType} (hk : (pv_tys κ)[k0]? = some (κ.2.1 k0, ty)) (hty : newarray.typeOf atype = ty) (hTy : ty = .char ∨ ty = .int ∨ ty = .boolean) (h1 : Cond.arrayClass (newarray.typeOf atype) ∈ Ts) (hn : n = nI N) (hN : N < 2 ^ 20) (hcs : cells + 1 ≤ R.cells ∧ slots + N ≤ R.slots) (kk : ∀ q : Nat, q ∉ L → pv_G κ p l e R s m args below meth c Q A nL (cells + 1) (slots + N) (L ++ [q]) (va_up f q (.inl (κ.2.1 k0, N, .inl (fun _ => 0)))) (pc + 2) vs (.ref q :: st)) : pv_G κ p l e R s m args below meth c Q A nL cells slots L f pc vs (.int n :: st) := fun H locs ls hP hD hS h => by
  subst hn
  have hdef : defaultValue ty = .int 0 := by rcases hTy with q | q | q <;> (rw [q]; rfl)
  have hcb : componentBytes ty ≤ 4 := by rcases hTy with q | q | q <;> (rw [q]; decide)
  refine va_newa hC.1 hC.2.1 (hC.2.2.2.2.1 _ h1) hty hC.2.2.2.2.2.2.2.1 hP hD hS hC.2.2.2.2.2.2.2.2.1 (a0 := (N, .inl (fun _ => 0))) (fun cA => ?_) (nI_pos (by omega)) (nI_clamp (by omega)) (Nat.le_trans (Nat.mul_le_mul_left N hcb) (by omega)) hcs.1 hcs.2 hdg (fun q cA H1 hK1 hP1 hD1 hS1 => ?_)
  · rw [hdef]; rfl
  · have hcA : cA = κ.2.1 k0 := by
      have g1 := (hK1.2 (pv_tys κ).length (cA, ty) (by rw [List.getElem?_append_right (Nat.le_refl _), Nat.sub_self]; rfl)).2
      have g2 := (hC.2.2.2.2.2.2.2.1.2 k0 _ hk).2
      have e1 : s.vm.findClass ("[" ++ ty.toString) = some cA := by rcases hTy with q | q | q <;> (subst q; exact g1)
      have e2 : s.vm.findClass ("[" ++ ty.toString) = some (κ.2.1 k0) := by rcases hTy with q | q | q <;> (subst q; exact g2)
      exact Option.some.inj (e1.symm.trans e2)
    subst hcA
    have hq : q ∉ L := va_pl_fresh2 (X := []) hD1
    rw [va_pl_push hq] at hP1 hD1
    exact kk q hq H1 locs ls hP1 hD1 hS1 h
theorem pg_newq (hC : pv_C κ p R s m args meth c y cc nL Ts rt A) {index N : Nat} {n : Int32} (hdg : decode cc pc = .ok (.anewarray index, 3)) (h1 : Cond.classLink y.cls index "ExcuseTariffs$School" ∈ Ts) (hn : n = nI N) (hN : N < 2 ^ 20) (hcs : cells + 1 ≤ R.cells ∧ slots + N ≤ R.slots) (kk : ∀ q : Nat, q ∉ L → pv_G κ p l e R s m args below meth c Q A nL (cells + 1) (slots + N) (L ++ [q]) (va_up f q (.inl (κ.2.1 3, N, .inr (.inr (.inr (.inr (fun _ => none))))))) (pc + 3) vs (.ref q :: st)) : pv_G κ p l e R s m args below meth c Q A nL cells slots L f pc vs (.int n :: st) := fun H locs ls hP hD hS h => by
  subst hn
  refine va_newq hC.1 hC.2.1 hC.2.2.2.1 (hC.2.2.2.2.1 _ h1) hC.2.2.2.2.2.2.2.2.2.1.2.2 hC.2.2.2.2.2.2.2.1 hP hD hS hC.2.2.2.2.2.2.2.2.1 (nI_pos (by omega)) (nI_clamp (by omega)) (by omega) hcs.1 hcs.2 hdg (fun q cA H1 hK1 hP1 hD1 hS1 => ?_)
  have hcA : cA = κ.2.1 3 := by
    obtain ⟨kA, comp, -, -, -, g1⟩ := (hK1.2 (pv_tys κ).length _ (by rw [List.getElem?_append_right (Nat.le_refl _), Nat.sub_self]; rfl)).2
    obtain ⟨kA2, comp2, -, -, -, g2⟩ := (hC.2.2.2.2.2.2.2.1.2 3 _ rfl).2
    exact Option.some.inj (g1.symm.trans g2)
  subst hcA
  have hq : q ∉ L := va_pl_fresh2 (X := []) hD1
  rw [va_pl_push hq] at hP1 hD1
  exact kk q hq H1 locs ls hP1 hD1 hS1 h
/-- a static table's row into a row of the pool -/
theorem pg_copyt (hC : pv_C κ p R s m args meth c y cc nL Ts rt A) {index t a n0 n1 : Nat} {nm : String} {r0 r1 : Nat → Int32} (hdg : decode cc pc = .ok (.invokestatic index, 3)) (h1 : Cond.methodLink y.cls index arraycopyName ∈ Ts) (h2 : Cond.native arraycopyName ∈ Ts) (h3 : Cond.static arraycopyName ∈ Ts) (h4 : Cond.initialized "java/lang/System" ∈ Ts) (ht : pv_tb nm t r0 A s) (hL1 : a ∈ L) (hf1 : f a = .inl (κ.2.1 1, n1, .inl r1)) (n : Nat) (hn0 : n ≤ 5) (hn1 : n ≤ n1) (hn0' : n0 = n) (hfr : 1 ≤ R.frames) (hlo : (st.map fun v => v.category).sum + (nativeFrameWords "java/lang/System" "arraycopy" 5 + 11) ≤ R.locals) (kk : pv_G κ p l e R s m args below meth c Q A nL cells slots L (va_up f a (.inl (κ.2.1 1, n1, .inl (va_cpy r0 r1 0 0 n)))) (pc + 3) vs st) : pv_G κ p l e R s m args below meth c Q A nL cells slots L f pc vs (.int (nI n0) :: .int 0 :: .ref a :: .int 0 :: .ref t :: st) := fun H locs ls hP hD hS h => by
  subst hn0'
  obtain ⟨q1, hq1⟩ := pv_at (D := κ.1) (H := H) hL1 hf1
  intro T hT X
  obtain ⟨-, scr, s1, ⟨s2, k0, hk0, cm0, hkk0⟩, s3, s4, -, s5, s6⟩ := ht
  have hc0 : H[t]? = some scr := (hS.2.1 t (Array.getElem?_eq_some_iff.mp s1).1 s6).trans s1
  have hc1 : H[a]? = some (vp_cell (κ.2.1 1) (n1, .inl r1)) := hP q1 _ hq1
  obtain ⟨-, k1, hk1, cm1, hkk1⟩ := (hC.2.2.2.2.2.2.2.1.2 1 _ rfl).1 n1 (fun j => .int (r1 j))
  have i0 : (0 : Int32).toInt = 0 := rfl
  have iN : (nI n0).toInt = (n0 : Int) := nI_toInt (by omega)
  have eN : (nI n0).toNatClampNeg = n0 := nI_clamp (by omega)
  have e0 : (0 : Int32).toNatClampNeg = 0 := rfl
  obtain ⟨vm', X', step⟩ := X.arraycopy hC.1 hC.2.2.2.1 (hC.2.2.2.2.1 _ h1) (hC.2.2.2.2.1 _ h2) (hC.2.2.2.2.1 _ h3) (hC.2.2.2.2.1 _ h4) (src := t) (dst := a) (cs := scr) (cd := vp_cell (κ.2.1 1) (n1, .inl r1)) (srcPos := 0) (destPos := 0) (n := nI n0) (by rw [hT]; exact hc0) (by rw [hT]; exact hc1)
    s2 (fun _ q => by cases q) s3 (fun q => by cases q) hk0 hk1 hkk0 hkk1 (by simp [refKind]) (by decide) (by decide) (nI_pos (by omega))
    (by rw [i0, iN]; omega)
    (by rw [i0, iN]; show ¬ _ > ((arrV (κ.2.1 1) n1 (fun j => .int (r1 j))).slots.size : Int); rw [arrV_size]; omega)
    (fun vm₁ _ i hi => by
      rw [eN] at hi
      have g : scr.slots.getD ((0 : Int32).toNatClampNeg + i) .null = .int (r0 ((0 : Int32).toNatClampNeg + i)) := by
        rw [Array.getD_eq_getD_getElem?, s5 _ (by rw [e0]; omega)]; rfl
      rw [g]
      exact ⟨rfl, trivial⟩)
    (g := F0 m pc ls (.int (nI n0) :: .int 0 :: .ref a :: .int 0 :: .ref t :: st)) rfl (by rw [hC.2.2.1]; exact h.1) (rest := st) rfl (by rw [hC.2.1]; exact hdg) hfr (by show 2 * 0 + _ + _ ≤ _; omega)
  have e1 : copied scr (vp_cell (κ.2.1 1) (n1, .inl r1)) 0 0 (nI n0) = vp_cell (κ.2.1 1) (n1, .inl (va_cpy r0 r1 0 0 n0)) := by
    have q := va_copiedX (n1 := n1) (sp := 0) (dp := 0) (n := (nI n0).toNatClampNeg) (fun z => Value.int z) scr (κ.2.1 1) r0 r1 s5 (by omega)
    refine Eq.trans q ?_
    rw [eN]
    rfl
  rw [e1] at X' step
  have hP2 := hP; have hD2 := hD
  have hE : (va_pl L f).set q1 (a, .inl (κ.2.1 1, n1, .inl (va_cpy r0 r1 0 0 n0))) = va_pl L (va_up f a (.inl (κ.2.1 1, n1, .inl (va_cpy r0 r1 0 0 n0)))) := pv_set hD hL1 hf1 hq1
  have hA : A a := hD.2 q1 _ hq1
  have hl : a < H.size := (Array.getElem?_eq_some_iff.mp hc1).1
  generalize hC2 : vp_cell (κ.2.1 1) (n1, .inl (va_cpy r0 r1 0 0 n0)) = C2 at X' step
  have oq : ∀ q : Nat, q ≠ a → (H.setIfInBounds a C2)[q]? = H[q]? := fun q hq => by rw [Array.getElem?_setIfInBounds, if_neg (Ne.symm hq)]
  have eq : (H.setIfInBounds a C2)[a]? = some C2 := by rw [Array.getElem?_setIfInBounds, if_pos rfl, if_pos hl]
  have hP3 := hP.set (e := .inl (κ.2.1 1, n1, .inl (va_cpy r0 r1 0 0 n0))) (H1 := H.setIfInBounds a C2) hD hq1 (show (H.setIfInBounds a C2)[a]? = some (vp_cell (κ.2.1 1) (n1, .inl (va_cpy r0 r1 0 0 n0))) by rw [hC2]; exact eq) oq
  have hD3 := hD.set (e := .inl (κ.2.1 1, n1, .inl (va_cpy r0 r1 0 0 n0))) hq1
  rw [hE] at hP3 hD3
  obtain ⟨t2, a1, b1⟩ := kk (H.setIfInBounds a C2) _ ls hP3 hD3 ⟨by rw [Array.size_setIfInBounds]; exact hS.1, fun q g1 g2 => (oq q (fun z => g2 (z ▸ hA))).trans (hS.2.1 q g1 g2), fun q hq => by
    rcases List.mem_append.mp hq with z | z
    · exact hS.2.2 q z
    · obtain ⟨i, -, rfl⟩ := List.mem_map.mp z
      exact hA⟩ h ((T.setVm vm').setCell a C2) (by rw [← hT]; rfl) X'
  exact ⟨t2, step t2 a1, b1⟩
end PVNW
end
section
/-! ===== p25: rows that the law's own methods need: constants, long products, long answers, joins ===== -/
section PVM
variable {κ : pv_Kt} {p : Program} {l : Launch} {e : Env} {R : Room} {s : State} {m : MethodId} {args : Array Value} {below : List Frame} {meth : Method} {c : Code} {Q : State → Prop} {A : Nat → Prop} {nL : Nat} {cells slots : Nat} {L : List Nat} {f : Nat → va_E} {pc : Nat} {vs : List (Nat × Value)} {st : List Value}
variable {y : MethodName} {cc : ByteArray} {Ts : List Cond} {rt : Option FieldType}
theorem pg_ldc (hC : pv_C κ p R s m args meth c y cc nL Ts rt A) {index : Nat} {v : Int32} (hdg : decode cc pc = .ok (.ldc index, 2)) (hw : Cond.constant y.cls index v ∈ Ts) (kk : pv_G κ p l e R s m args below meth c Q A nL cells slots L f (pc + 2) vs (.int v :: st)) : pv_G κ p l e R s m args below meth c Q A nL cells slots L f pc vs st := fun H locs ls hP hD hS h => lv_ldc hC.1 hC.2.1 hC.2.2.2.1 (hC.2.2.2.2.1 _ hw) hdg (kk H locs ls hP hD hS h)
theorem pg_lmul (hC : pv_C κ p R s m args meth c y cc nL Ts rt A) {x y v : Int64} (hdg : decode cc pc = .ok (.lmul, 1)) (hv : x * y = v) (kk : pv_G κ p l e R s m args below meth c Q A nL cells slots L f (pc + 1) vs (.long v :: st)) : pv_G κ p l e R s m args below meth c Q A nL cells slots L f pc vs (.long y :: .long x :: st) := fun H locs ls hP hD hS h => by subst hv; exact lv_lmul hC.1 hC.2.1 hdg (kk H locs ls hP hD hS h)
theorem pg_ineg (hC : pv_C κ p R s m args meth c y cc nL Ts rt A) {x v : Int32} (hdg : decode cc pc = .ok (.ineg, 1)) (hv : -x = v) (kk : pv_G κ p l e R s m args below meth c Q A nL cells slots L f (pc + 1) vs (.int v :: st)) : pv_G κ p l e R s m args below meth c Q A nL cells slots L f pc vs (.int x :: st) := fun H locs ls hP hD hS h => by subst hv; exact lv_ineg hC.1 hC.2.1 hdg (kk H locs ls hP hD hS h)
/-- where ways meet again -/
theorem pg_join {σ : Type} (I : σ → Prop) (pc1 : Nat) (VS : σ → List (Nat × Value)) (ST : σ → List Value) (FF : σ → Nat → va_E) (h1 : ∀ q, I q → pv_G κ p l e R s m args below meth c Q A nL cells slots L (FF q) pc1 (VS q) (ST q)) (k : (∀ q, I q → pv_G κ p l e R s m args below meth c Q A nL cells slots L (FF q) pc1 (VS q) (ST q)) → pv_G κ p l e R s m args below meth c Q A nL cells slots L f pc vs st) : pv_G κ p l e R s m args below meth c Q A nL cells slots L f pc vs st := k h1
end PVM
/-- contracts: an answer that is a long -/
def pv_Ml (l : Launch) (κ : pv_Kt) (y : MethodName) (ws : List Cond) (rm : Room) (L : List Nat) (f : Nat → va_E) (av : List Value) (mc ms : Nat) (post : Int64 → List Nat × (Nat → va_E) → Prop) : Prop := ∀ sz : Nat, Met l y ws rm (va_Pc av (pv_P κ L f sz)) (va_Ql post (pv_B κ (va_A (va_pl L f) sz)) (va_A (va_pl L f) sz)) mc ms (va_A (va_pl L f) sz)
theorem pv_startL {l : Launch} {κ : pv_Kt} {y : MethodName} {ws ws' : List Cond} {rm : Room} {L : List Nat} {f : Nat → va_E} {av : List Value} {mc ms : Nat} {post : Int64 → List Nat × (Nat → va_E) → Prop} {cc : ByteArray} {maxL : Nat} {ret : Option FieldType} (hy : plainName y.cls = true) (hw : ws = Cond.code y cc maxL ret :: ws') (hlen : (lg_sl av).length ≤ maxL)
    (body : ∀ (A : Nat → Prop) (p : Program) (e : Env) (s : State) (m : MethodId) (args : Array Value) (below : List Frame) (meth : Method) (c : Code), pv_C κ p rm s m args meth c y cc maxL ws ret A → pv_G κ p l e rm s m args below meth c (MQ below (va_Ql post (pv_B κ A) A) args s mc ms A) A maxL 0 0 L f 0 (lv_args 0 av) []) : pv_Ml l κ y ws rm L f av mc ms post := by
  intro sz
  refine Met.ofW (cc := cc) (maxL := maxL) (ret := ret) hy hw ?_
  intro p e s m args below meth c s₁ B hml hv
  obtain ⟨rfl, hsz, hP, hK, hD0, hT⟩ := hv
  subst hsz
  have hn := name_of_methodNamed B.named B.method
  have C : pv_C κ p rm s m av.toArray meth c y cc maxL ws ret (va_A (va_pl L f) s.heap.size) := ⟨B.exec, B.bytes, hml, findClass_of_methodNamed B.named, atoms_spec (ws := ws) B.pre, B.returns, B.notSynchronized, hK, fun q h => Or.inr h, hT, hn.1⟩
  rw [lg_entry_eq]
  exact body _ p e s m _ below meth c C s.heap [] _ hP (hD0.self (sz := s.heap.size)) va_S.rf (lv_entry av hlen)
section PVML
variable {κ : pv_Kt} {p : Program} {l : Launch} {e : Env} {R : Room} {s : State} {m : MethodId} {args : Array Value} {below : List Frame} {meth : Method} {c : Code} {Q : State → Prop} {A : Nat → Prop} {nL : Nat} {cells slots : Nat} {L : List Nat} {f : Nat → va_E} {pc : Nat} {vs : List (Nat × Value)} {st : List Value}
variable {y : MethodName} {cc : ByteArray} {Ts : List Cond} {rt : Option FieldType} {x : Nat → Nat → Nat}
theorem pg_lret (hC : pv_C κ p R s m args meth c y cc nL Ts rt A) {v : Int64} {post : Int64 → List Nat × (Nat → va_E) → Prop} (hdg : decode cc pc = .ok (.lreturn, 1)) (hr : rt = some .long) (hpost : post v (L, f)) : pv_G κ p l e R s m args below meth c (MQ below (va_Ql post (pv_B κ A) A) args s cells slots A) A nL cells slots L f pc vs [.long v] := fun H locs ls hP hD hS h => W.lret hC.1 hC.2.1 (hC.2.2.2.2.2.1.trans hr) (fun t ht hW => ⟨⟨v, (L, f), rfl, hpost, by rw [ht]; exact hP, va_K.moved hW.alike hC.2.2.2.2.2.2.2.1, hD⟩, hS.F ht⟩) hS.2.2 hdg hC.2.2.2.2.2.2.1
theorem pg_callSl (hC : pv_C κ p R s m args meth c y cc nL Ts rt A) {y2 : MethodName} {ws2 : List Cond} {rm2 : Room} {bytes : ByteArray} {maxL : Nat} {ret : Option FieldType} {n index : Nat} {As rest : List Value} {mc ms : Nat} {post : Int64 → List Nat × (Nat → va_E) → Prop} (hdg : decode cc pc = .ok (.invokestatic index, 3)) (hM : pv_Ml l κ y2 ws2 rm2 L f As mc ms post) (cw : CallB R s args y.cls index y2 bytes maxL ret ws2 rm2 mc ms n ∧ (Cond.static y2).before args s = true) (hn : As.length = n) (hst : st = As.reverse ++ rest) (hWt : (rest.map fun v => v.category).sum ≤ 8) (hcs : cells + mc ≤ R.cells ∧ slots + ms ≤ R.slots) (kk : ∀ (r : Int64) (u : List Nat × (Nat → va_E)), post r u → pv_G κ p l e R s m args below meth c Q A nL (cells + mc) (slots + ms) u.1 u.2 (pc + 3) vs (.long r :: rest)) : pv_G κ p l e R s m args below meth c Q A nL cells slots L f pc vs st := fun H locs ls hP hD hS h => by
  subst hst
  refine va_calll (va_runS (As := As) (rest := rest) ⟨hC.1, hC.2.1, hC.2.2.1, hC.2.2.2.1, hC.2.2.2.2.1⟩ (hM H.size) cw ⟨pv_blind, fun U hU hW => ⟨rfl, pv_pre hC.2.2.2.2.2.2.2.2.1 hC.2.2.2.2.2.2.2.1 hC.2.2.2.2.2.2.2.2.2.1 hP hD hS hU hW⟩⟩ rfl hn h.1 rfl (by show 2 * 0 + _ ≤ 8; omega) hdg hcs) hS (fun q _ z => pv_A_in hC.2.2.2.2.2.2.2.2.1 hD hS q z) (pv_A_in hC.2.2.2.2.2.2.2.2.1 hD hS) (fun r u t H1 locs1 ht hvm hw hB hz hk hS1 => ?_)
  obtain ⟨hP1, -, hD1⟩ := hB
  rw [ht] at hP1
  exact kk r u hw H1 locs1 ls hP1 (hD1.weaken (fun _ q _ z => pv_A_in hC.2.2.2.2.2.2.2.2.1 hD hS q.1 z)) hS1 h
def pv_Rl (L : List Nat) (f : Nat → va_E) (v : Int64) : Int64 → List Nat × (Nat → va_E) → Prop := fun r u => r = v ∧ u = (L, f)
theorem pg_callSRl (hC : pv_C κ p R s m args meth c y cc nL Ts rt A) {y2 : MethodName} {ws2 : List Cond} {rm2 : Room} {bytes : ByteArray} {maxL : Nat} {ret : Option FieldType} {n index : Nat} {As rest : List Value} {v : Int64} (hdg : decode cc pc = .ok (.invokestatic index, 3)) (hM : pv_Ml l κ y2 ws2 rm2 L f As 0 0 (pv_Rl L f v)) (cw : CallB R s args y.cls index y2 bytes maxL ret ws2 rm2 0 0 n ∧ (Cond.static y2).before args s = true) (hn : As.length = n) (hst : st = As.reverse ++ rest) (hWt : (rest.map fun v => v.category).sum ≤ 8) (hc : cells ≤ R.cells) (hs : slots ≤ R.slots) (kk : pv_G κ p l e R s m args below meth c Q A nL cells slots L f (pc + 3) vs (.long v :: rest)) : pv_G κ p l e R s m args below meth c Q A nL cells slots L f pc vs st := pg_callSl hC hdg hM cw hn hst hWt ⟨hc, hs⟩ (fun r u hu => by obtain ⟨rfl, rfl⟩ := hu; exact kk)
/-- a call that leaves the table as it was told, with an answer that has another name -/
theorem pg_callVXi (hC : pv_C κ p R s m args meth c y cc nL Ts rt A) {Z2 Z3 : Nat → Nat → Nat → Int32} {y2 : MethodName} {ws2 : List Cond} {rm2 : Room} {bytes : ByteArray} {maxL : Nat} {ret : Option FieldType} {n index ci b : Nat} {C2 : String} {fs : List Value} {r0 : vw_C} {As rest : List Value} {v v2 : Int32} (hdg : decode cc pc = .ok (.invokevirtual index, 3)) (hM : pv_Mi l κ y2 ws2 rm2 L f (.ref b :: As) 0 0 (pv_Wi κ x L Z2 v)) (hz : v = v2 ∧ Z2 = Z3) (cw : CallW R s args y.cls C2 index y2 bytes maxL ret ws2 rm2 0 0 n) (hL : b ∈ L) (hfb : f b = .inr (ci, fs)) (hcl : vwCl[ci]? = some r0) (hr0 : r0.1 = C2) (hn : As.length = n) (hst : st = As.reverse ++ .ref b :: rest) (hWt : (rest.map fun v => v.category).sum ≤ 8) (hc : cells ≤ R.cells) (hs : slots ≤ R.slots) (kk : ∀ f2 : Nat → va_E, pv_ok κ x L f2 Z3 → pv_G κ p l e R s m args below meth c Q A nL cells slots L f2 (pc + 3) vs (.int v2 :: rest)) : pv_G κ p l e R s m args below meth c Q A nL cells slots L f pc vs st := by
  obtain ⟨rfl, rfl⟩ := hz
  exact pg_callVWi hC hdg hM cw hL hfb hcl hr0 hn hst hWt hc hs kk
theorem pg_callVYi (hC : pv_C κ p R s m args meth c y cc nL Ts rt A) {y2 : MethodName} {ws2 : List Cond} {rm2 : Room} {bytes : ByteArray} {maxL : Nat} {ret : Option FieldType} {n index ci b : Nat} {C2 : String} {fs : List Value} {r0 : vw_C} {As rest : List Value} {v v2 : Int32} (hdg : decode cc pc = .ok (.invokevirtual index, 3)) (hM : pv_Mi l κ y2 ws2 rm2 L f (.ref b :: As) 0 0 (pv_R L f v)) (hz : v = v2) (cw : CallW R s args y.cls C2 index y2 bytes maxL ret ws2 rm2 0 0 n) (hL : b ∈ L) (hfb : f b = .inr (ci, fs)) (hcl : vwCl[ci]? = some r0) (hr0 : r0.1 = C2) (hn : As.length = n) (hst : st = As.reverse ++ .ref b :: rest) (hWt : (rest.map fun v => v.category).sum ≤ 8) (hc : cells ≤ R.cells) (hs : slots ≤ R.slots) (kk : pv_G κ p l e R s m args below meth c Q A nL cells slots L f (pc + 3) vs (.int v2 :: rest)) : pv_G κ p l e R s m args below meth c Q A nL cells slots L f pc vs st := by
  subst hz
  exact pg_callVRi hC hdg hM cw hL hfb hcl hr0 hn hst hWt hc hs kk
end PVML
end
section
/-! ===== what the methods answer, over one school's table z: 0 settings, 1 excuses, 2 kinds, 3 worths, 4 uses in all terms, 5 uses (pupil * 12 + excuse), 6 credits, 7 fines, 8 paid, 9 stamps, 10 refusals, 11 latest kinds, 12 grudges, 13 refused for, 14 terms ===== -/
abbrev cl (x : Int32) : Nat := x.toNatClampNeg
def bW (v lo hi : Int32) : Int32 := if v < lo then 0 else if hi < v then 0 else 1
theorem bW_01 (v lo hi : Int32) : bW v lo hi = 0 ∨ bW v lo hi = 1 := by unfold bW; split; exact Or.inl rfl; split; exact Or.inl rfl; exact Or.inr rfl
theorem z_01 {x : Int32} (h : x = 0 ∨ x = 1) : narrow .boolean (.int x) = .int x := by rcases h with rfl | rfl <;> rfl
theorem bW_z (v lo hi : Int32) : narrow .boolean (.int (bW v lo hi)) = .int (bW v lo hi) := z_01 (bW_01 v lo hi)
theorem bW_pos {v lo hi : Int32} (h : ¬ bW v lo hi = 0) : ¬ v < lo ∧ ¬ hi < v := by
  unfold bW at h
  by_cases h1 : v < lo
  · simp [h1] at h
  · by_cases h2 : hi < v
    · simp [h1, h2] at h
    · exact ⟨h1, h2⟩
/-- within 0 and m: a number -/
theorem bW_nat {v hi : Int32} {m : Nat} (hm : hi = nI m) (hb : m < 2 ^ 30) (h : ¬ bW v 0 hi = 0) : ∃ j : Nat, j ≤ m ∧ v = nI j := by
  obtain ⟨h1, h2⟩ := bW_pos h
  subst hm
  obtain ⟨j, hj, rfl⟩ := nI_of h1
  exact ⟨j, Nat.le_of_not_lt (fun q => h2 ((nI_ltI (by omega) hj).mpr q)), rfl⟩
theorem bW_of {j m : Nat} (hj : j ≤ m) (hm : m < 2 ^ 30) : bW (nI j) 0 (nI m) = 1 := by
  unfold bW
  rw [if_neg (nI_pos (by omega)), if_neg (nI_nlt hj (by omega))]
def bH (z : Nat → Nat → Int32) (e : Int32) : Int32 := if e < 0 then 0 else if z 1 0 ≤ e then 0 else 1
theorem bH_01 (z : Nat → Nat → Int32) (e : Int32) : bH z e = 0 ∨ bH z e = 1 := by unfold bH; split; exact Or.inl rfl; split; exact Or.inl rfl; exact Or.inr rfl
theorem bH_nat {z : Nat → Nat → Int32} {e : Int32} {n : Nat} (hn : z 1 0 = nI n) (hb : n < 2 ^ 30) (h : ¬ bH z e = 0) : ∃ j : Nat, j < n ∧ e = nI j := by
  unfold bH at h
  by_cases h1 : e < 0
  · simp [h1] at h
  · obtain ⟨j, hj, rfl⟩ := nI_of h1
    by_cases h2 : z 1 0 ≤ nI j
    · simp [h1, h2] at h
    · rw [hn] at h2
      exact ⟨j, Nat.lt_of_not_le (fun q => h2 (nI_le q (by omega))), rfl⟩
def sU (z : Nat → Nat → Int32) (p e : Nat) : Int32 := z 5 (p * 12 + e)
def sUP (z : Nat → Nat → Int32) (p : Nat) : Int32 := bx_sum (fun e => sU z p e) 12
def sUS (z : Nat → Nat → Int32) (e : Nat) : Int32 := bx_sum (fun p => z 5 (e + 12 * p)) 10
def sUC (z : Nat → Nat → Int32) (m e : Nat) : Int32 := z 5 (2 * m * 12 + e) + z 5 (2 * m * 12 + e + 12)
/-- the pupils who used it, as a set -/
def sSet (g : Nat → Int32) : Nat → Int32 | 0 => 0 | n + 1 => if 0 < g n then sSet g n ||| (1 <<< (nI n &&& 31)) else sSet g n
def sUsers (z : Nat → Nat → Int32) (e : Nat) : Int32 := sSet (fun p => sU z p e) 10
def sMax0 (x : Int32) : Int32 := if 0 < x then x else 0
def sNov (z : Nat → Nat → Int32) (p e : Nat) : Int32 := sMax0 (100 - z 0 1 * (sUS z e + sUC z (p / 2) e))
def sStand (z : Nat → Nat → Int32) (w p : Nat) : Int32 := if w / 2 = p / 2 then sMax0 (z 6 w - 2) else z 6 w
def sBase (z : Nat → Nat → Int32) (p e : Nat) (mn : Int32) : Int32 := z 3 e * sNov z p e / 100 - z 0 4 * z 12 (p / 2) - mn / 10
def sWt (z : Nat → Nat → Int32) (p e : Nat) (wt mn : Int32) : Int32 := if wt = -6 then sBase z p e mn else sBase z p e mn + sStand z (cl wt) p
def sReason (z : Nat → Nat → Int32) (p e : Nat) (wt mn : Int32) : Int32 :=
  if sU z p e < z 0 2 then (if z 11 p = z 2 e then 2 else if ¬ wt = -6 ∧ z 6 (cl wt) = 0 then 3 else if z 0 0 ≤ sWt z p e wt mn then 0 else 4) else 1
/-- worn out: nobody would find it new -/
def sWO (z : Nat → Nat → Int32) (e : Nat) : Int32 := if ∀ p : Nat, p < 10 → sNov z p e ≤ 0 then 1 else 0
theorem sWO_01 (z : Nat → Nat → Int32) (e : Nat) : sWO z e = 0 ∨ sWO z e = 1 := by unfold sWO; split; exact Or.inr rfl; exact Or.inl rfl
def sCnt (g : Nat → Int32) : Nat → Int32 | 0 => 0 | n + 1 => if g n = 0 then sCnt g n else sCnt g n + 1
def sWOs (z : Nat → Nat → Int32) (n : Nat) : Int32 := sCnt (fun e => sWO z e) n
theorem cl_nI {w : Nat} (h : w < 2 ^ 31) : cl (nI w) = w := nI_clamp h
/-! what the methods make of the table -/
def sTake (z : Nat → Nat → Int32) (wt c : Int32) : Nat → Nat → Int32 := if wt = -6 then z else zu z 6 (cl wt) (sMax0 (z 6 (cl wt) - c))
def sMin9 (x : Int32) : Int32 := if x < 9 then x else 9
def sAnger (z : Nat → Nat → Int32) (p : Nat) : Nat → Nat → Int32 := zu z 12 (p / 2) (sMin9 (z 12 (p / 2) + 1))
def sStamp0 (z : Nat → Nat → Int32) (p e : Nat) : Nat → Nat → Int32 := zu (zu (zu z 5 (p * 12 + e) (z 5 (p * 12 + e) + 1)) 4 e (z 4 e + 1)) 9 p (z 9 p + 1)
def sStamp (z : Nat → Nat → Int32) (p e : Nat) (wt mn : Int32) : Nat → Nat → Int32 := if mn ≤ 30 then sTake (sStamp0 z p e) wt 1 else sAnger (sTake (sStamp0 z p e) wt 1) p
def sRefuse0 (z : Nat → Nat → Int32) (p : Nat) (mn : Int32) (r : Nat) : Nat → Nat → Int32 := sAnger (zu (zu (zu z 7 p (z 7 p + z 0 3 * mn)) 10 p (z 10 p + 1)) 13 r (z 13 r + 1)) p
def sRefuse (z : Nat → Nat → Int32) (p : Nat) (wt mn : Int32) (r : Nat) : Nat → Nat → Int32 := if r = 4 then sTake (sRefuse0 z p mn r) wt 2 else sRefuse0 z p mn r
def sOffer0 (z : Nat → Nat → Int32) (p e : Nat) (wt mn : Int32) : Nat → Nat → Int32 := if sReason z p e wt mn = 0 then sStamp z p e wt mn else sRefuse z p wt mn (cl (sReason z p e wt mn))
def sOffer (z : Nat → Nat → Int32) (p e : Nat) (wt mn : Int32) : Nat → Nat → Int32 := zu (sOffer0 z p e wt mn) 11 p (sOffer0 z p e wt mn 2 e)
theorem sReason_nat (z : Nat → Nat → Int32) (p e : Nat) (wt mn : Int32) (h : ¬ sReason z p e wt mn = 0) : ∃ r : Nat, 1 ≤ r ∧ r ≤ 4 ∧ sReason z p e wt mn = nI r := by
  unfold sReason at h ⊢
  by_cases c1 : sU z p e < z 0 2
  · rw [if_pos c1] at h ⊢
    by_cases c2 : z 11 p = z 2 e
    · rw [if_pos c2] at h ⊢
      exact ⟨2, by decide, by decide, rfl⟩
    · rw [if_neg c2] at h ⊢
      by_cases c3 : ¬ wt = -6 ∧ z 6 (cl wt) = 0
      · rw [if_pos c3] at h ⊢
        exact ⟨3, by decide, by decide, rfl⟩
      · rw [if_neg c3] at h ⊢
        by_cases c4 : z 0 0 ≤ sWt z p e wt mn
        · rw [if_pos c4] at h
          exact absurd rfl h
        · rw [if_neg c4] at h ⊢
          exact ⟨4, by decide, by decide, rfl⟩
  · rw [if_neg c1] at h ⊢
    exact ⟨1, by decide, by decide, rfl⟩
def sAdd (z : Nat → Nat → Int32) (n : Nat) (kind worth : Int32) : Nat → Nat → Int32 := zu (zu (zu z 2 n kind) 3 n worth) 1 0 (nI (n + 1))
def sT1 (z : Nat → Nat → Int32) : Nat → Nat → Nat → Int32 | 0 => z | k + 1 => zu (sT1 z k) 5 k 0
def sT2 (z : Nat → Nat → Int32) : Nat → Nat → Nat → Int32 | 0 => z | k + 1 => zu (zu (sT2 z k) 11 k (-6)) 6 k (sMin9 (sT2 z k 6 k + 2))
def sT3 (z : Nat → Nat → Int32) : Nat → Nat → Nat → Int32 | 0 => z | k + 1 => zu (sT3 z k) 12 k (sT3 z k 12 k / 2)
def sTerm0 (z : Nat → Nat → Int32) : Nat → Nat → Int32 := sT3 (sT2 (sT1 z 120) 10) 5
def sTerm (z : Nat → Nat → Int32) : Nat → Nat → Int32 := zu (sTerm0 z) 14 0 (sTerm0 z 14 0 + 1)
/-- z becomes w, row by row -/
def sBec (z w : Nat → Nat → Int32) : Nat → Nat → Int32 :=
  zu (zc (zc (zc (zc (zc (zc (zc (zc (zc (zc (zc (zc (zu (zc z 0 (va_cpy (w 0) (z 0) 0 0 5)) 1 0 (w 1 0)) 2 (va_cpy (w 2) (z 2) 0 0 12)) 3 (va_cpy (w 3) (z 3) 0 0 12)) 4 (va_cpy (w 4) (z 4) 0 0 12)) 5 (va_cpy (w 5) (z 5) 0 0 120)) 6 (va_cpy (w 6) (z 6) 0 0 10)) 7 (va_cpy (w 7) (z 7) 0 0 10)) 8 (va_cpy (w 8) (z 8) 0 0 10)) 9 (va_cpy (w 9) (z 9) 0 0 10)) 10 (va_cpy (w 10) (z 10) 0 0 10)) 11 (va_cpy (w 11) (z 11) 0 0 10)) 12 (va_cpy (w 12) (z 12) 0 0 5)) 13 (va_cpy (w 13) (z 13) 0 0 5)) 14 0 (w 14 0)
/-! the reader: r 0 0 place, r 1 0 pupil, r 2 0 excuse, r 3 0 minutes, r 4 0 witness -/
def rDig (c : Int32) : Int32 := bW c 48 57
def bE (c d : Int32) : Int32 := if c = d then 1 else 0
theorem bE_01 (c d : Int32) : bE c d = 0 ∨ bE c d = 1 := by unfold bE; split; exact Or.inr rfl; exact Or.inl rfl
def rGo (r : Nat → Nat → Int32) (b nx : Int32) : Nat → Nat → Int32 := if b = 0 then r else zu r 0 0 nx
def rBegin (r : Nat → Nat → Int32) : Nat → Nat → Int32 := zu (zu r 0 0 0) 4 0 (-6)
def rPupil (r : Nat → Nat → Int32) (c : Int32) : Nat → Nat → Int32 := rGo (if rDig c = 0 then r else zu r 1 0 (c - 48)) (rDig c) 1
def rExcuse (r : Nat → Nat → Int32) (c : Int32) : Nat → Nat → Int32 := rGo (if bW c 97 108 = 0 then r else zu r 2 0 (c - 97)) (bW c 97 108) 2
def rMin (r : Nat → Nat → Int32) (c t nx : Int32) : Nat → Nat → Int32 := rGo (if rDig c = 0 then r else zu r 3 0 (10 * t + c - 48)) (rDig c) nx
def rComma (r : Nat → Nat → Int32) (c : Int32) : Nat → Nat → Int32 := rGo (if c = 44 then zu r 4 0 (-6) else r) (bE c 44) 0
def rAfter (r : Nat → Nat → Int32) (c : Int32) : Nat → Nat → Int32 := if c = 119 then zu r 0 0 6 else rComma r c
def rAfterB (c : Int32) : Int32 := if c = 119 then 1 else bE c 44
def rWitB (r : Nat → Nat → Int32) (c : Int32) : Int32 := if rDig c = 0 then 0 else if c - 48 = r 1 0 then 0 else 1
def rWit (r : Nat → Nat → Int32) (c : Int32) : Nat → Nat → Int32 := rGo (if rWitB r c = 0 then r else zu r 4 0 (c - 48)) (rWitB r c) 7
/-- whether a character may stand, and the reader behind it -/
def rB (r : Nat → Nat → Int32) (c : Int32) : Int32 :=
  if r 0 0 = 0 then rDig c else if r 0 0 = 1 then bW c 97 108 else if r 0 0 = 2 then bE c 109 else if r 0 0 = 3 then (if c = 48 then 0 else rDig c) else if r 0 0 = 4 then (if rDig c = 0 then rAfterB c else 1) else if r 0 0 = 5 then rAfterB c else if r 0 0 = 6 then rWitB r c else bE c 44
def rT (r : Nat → Nat → Int32) (c : Int32) : Nat → Nat → Int32 :=
  if r 0 0 = 0 then rPupil r c else if r 0 0 = 1 then rExcuse r c else if r 0 0 = 2 then rGo r (bE c 109) 3 else if r 0 0 = 3 then (if c = 48 then r else rMin r c 0 4) else if r 0 0 = 4 then (if rDig c = 0 then rAfter (rMin r c (r 3 0) 5) c else rMin r c (r 3 0) 5) else if r 0 0 = 5 then rAfter r c else if r 0 0 = 6 then rWit r c else rComma r c
def rEnd (r : Nat → Nat → Int32) : Int32 := if r 0 0 = 4 then 1 else if r 0 0 = 5 then 1 else if r 0 0 = 7 then 1 else 0
theorem rDig_01 (c : Int32) : rDig c = 0 ∨ rDig c = 1 := bW_01 _ _ _
theorem rAfterB_01 (c : Int32) : rAfterB c = 0 ∨ rAfterB c = 1 := by unfold rAfterB; split; exact Or.inr rfl; exact bE_01 _ _
theorem rWitB_01 (r : Nat → Nat → Int32) (c : Int32) : rWitB r c = 0 ∨ rWitB r c = 1 := by unfold rWitB; split; exact Or.inl rfl; split; exact Or.inl rfl; exact Or.inr rfl
theorem rB_01 (r : Nat → Nat → Int32) (c : Int32) : rB r c = 0 ∨ rB r c = 1 := by
  unfold rB
  split; exact rDig_01 c
  split; exact bW_01 _ _ _
  split; exact bE_01 _ _
  split; (split; exact Or.inl rfl; exact rDig_01 c)
  split; (split; exact rAfterB_01 c; exact Or.inr rfl)
  split; exact rAfterB_01 c
  split; exact rWitB_01 r c
  exact bE_01 _ _
/-! the class: what its methods answer (z the school in use) and make of the table of groups -/
theorem nI_min6 {a : Nat} (h : a < 2 ^ 30) : (if nI (a + 1) < 6 then nI (a + 1) else 6) = nI (min 6 (a + 1)) := by
  by_cases c : a + 1 < 6
  · rw [if_pos (show nI (a + 1) < 6 from nI_lt c (by decide)), Nat.min_eq_right (by omega)]
  · rw [if_neg (show ¬ nI (a + 1) < 6 from nI_nlt (a := a + 1) (b := 6) (by omega) (by omega)), Nat.min_eq_left (by omega)]; rfl
def sRing (h : Nat → Nat → Int32) (nx kp : Nat) : Nat → Nat → Int32 := zu (zu h 1 0 (nI nx)) 2 0 (nI kp)
def sKeep (Z : Nat → Nat → Nat → Int32) (nx kp : Nat) : Nat → Nat → Nat → Int32 := va_up (va_up Z (1 + nx) (sBec (Z (1 + nx)) (Z 0))) 12 (sRing (Z 12) ((nx + 1) % 6) (min 6 (kp + 1)))
theorem sKeep_0 (Z : Nat → Nat → Nat → Int32) (nx kp : Nat) : sKeep Z nx kp 0 = Z 0 := by
  unfold sKeep
  rw [va_up_ne _ _ (by decide), va_up_ne _ _ (by omega)]
theorem sKeep_ok {κ : pv_Kt} {x : Nat → Nat → Nat} {L : List Nat} {f : Nat → va_E} {Z : Nat → Nat → Nat → Int32} {nx kp : Nat} (h : pv_ok κ x L f (sKeep Z nx kp)) : pv_ok κ x L f (va_up (sKeep Z nx kp) 0 (Z 0)) := by
  have h2 := ogI h 0
  rw [sKeep_0] at h2
  exact h2
def sBack (Z : Nat → Nat → Nat → Int32) (nx kp : Nat) : Nat → Nat → Nat → Int32 := va_up (va_up Z 12 (sRing (Z 12) ((nx + 6 - 1) % 6) (kp - 1))) 0 (sBec (Z 0) (Z (1 + (nx + 6 - 1) % 6)))
def tErr (z : Nat → Nat → Int32) (pp ee wt mn : Int32) : Int32 := if bW pp 0 9 = 0 then -1 else if bH z ee = 0 then -1 else if ¬ wt = -6 ∧ bW wt 0 9 = 0 then -1 else if bW mn 1 99 = 0 then -2 else if wt = pp then -2 else 0
theorem tErr_0 {z : Nat → Nat → Int32} {pp ee wt mn : Int32} {n : Nat} (hn : z 1 0 = nI n) (hn12 : n ≤ 12) (h : tErr z pp ee wt mn = 0) : ∃ p e : Nat, p < 10 ∧ e < 12 ∧ pp = nI p ∧ ee = nI e ∧ (wt = -6 ∨ ∃ w : Nat, w < 10 ∧ wt = nI w) := by
  unfold tErr at h
  by_cases c1 : bW pp 0 9 = 0
  · rw [if_pos c1] at h; exact absurd h (by decide)
  rw [if_neg c1] at h
  by_cases c2 : bH z ee = 0
  · rw [if_pos c2] at h; exact absurd h (by decide)
  rw [if_neg c2] at h
  by_cases c3 : ¬ wt = -6 ∧ bW wt 0 9 = 0
  · rw [if_pos c3] at h; exact absurd h (by decide)
  obtain ⟨p, hp, e1⟩ := bW_nat (m := 9) rfl (by decide) c1
  obtain ⟨e, he, e2⟩ := bH_nat hn (by omega) c2
  refine ⟨p, e, by omega, by omega, e1, e2, ?_⟩
  by_cases c4 : wt = -6
  · exact Or.inl c4
  · obtain ⟨w, hw, e3⟩ := bW_nat (v := wt) (m := 9) rfl (by decide) (fun q => c3 ⟨c4, q⟩)
    exact Or.inr ⟨w, by omega, e3⟩
def tWhy (z : Nat → Nat → Int32) (pp ee wt mn : Int32) : Int32 := if tErr z pp ee wt mn = 0 then sReason z (cl pp) (cl ee) wt mn else tErr z pp ee wt mn
def tWeight (z : Nat → Nat → Int32) (pp ee wt mn : Int32) : Int32 := if tErr z pp ee wt mn = 0 then 1000 + sWt z (cl pp) (cl ee) wt mn else tErr z pp ee wt mn
def tOfferZ (Z : Nat → Nat → Nat → Int32) (nx kp : Nat) (pp ee wt mn : Int32) : Nat → Nat → Nat → Int32 := if tErr (Z 0) pp ee wt mn = 0 then va_up (sKeep Z nx kp) 0 (sOffer (Z 0) (cl pp) (cl ee) wt mn) else Z
def tNovelty (z : Nat → Nat → Int32) (pp ee : Int32) : Int32 := if bW pp 0 9 = 0 then -1 else if bH z ee = 0 then -1 else sNov z (cl pp) (cl ee)
def tSet (z : Nat → Nat → Int32) (st v : Int32) : Int32 := if bW st 0 4 = 0 then -2 else if bW v (pv_t1 (cl st)) (pv_t2 (cl st)) = 0 then -2 else z 0 (cl st)
def tSetZ (Z : Nat → Nat → Nat → Int32) (nx kp : Nat) (st v : Int32) : Nat → Nat → Nat → Int32 := if bW st 0 4 = 0 then Z else if bW v (pv_t1 (cl st)) (pv_t2 (cl st)) = 0 then Z else va_up (sKeep Z nx kp) 0 (zu (Z 0) 0 (cl st) v)
def tAdd (n : Nat) (kd wh : Int32) : Int32 := if bW kd 0 4 = 0 then -2 else if bW wh 1 99 = 0 then -2 else if n < 12 then nI n else -4
def tAddZ (Z : Nat → Nat → Nat → Int32) (nx kp n : Nat) (kd wh : Int32) : Nat → Nat → Nat → Int32 := if bW kd 0 4 = 0 then Z else if bW wh 1 99 = 0 then Z else if n < 12 then va_up (sKeep Z nx kp) 0 (sAdd (Z 0) n kd wh) else Z
def tWorth (z : Nat → Nat → Int32) (ee wh : Int32) : Int32 := if bH z ee = 0 then -1 else if bW wh 1 99 = 0 then -2 else z 3 (cl ee)
def tWorthZ (Z : Nat → Nat → Nat → Int32) (nx kp : Nat) (ee wh : Int32) : Nat → Nat → Nat → Int32 := if bH (Z 0) ee = 0 then Z else if bW wh 1 99 = 0 then Z else va_up (sKeep Z nx kp) 0 (zu (Z 0) 3 (cl ee) wh)
def sPay (z : Nat → Nat → Int32) (p : Nat) (pc : Int32) : Nat → Nat → Int32 := zu (zu z 7 p (z 7 p - pc)) 8 p (z 8 p + pc)
def tPay (z : Nat → Nat → Int32) (pp pc : Int32) : Int32 := if bW pp 0 9 = 0 then -1 else if bW pc 1 9999 = 0 then -2 else if pc ≤ z 7 (cl pp) then z 7 (cl pp) - pc else -5
def tPayZ (Z : Nat → Nat → Nat → Int32) (nx kp : Nat) (pp pc : Int32) : Nat → Nat → Nat → Int32 := if bW pp 0 9 = 0 then Z else if bW pc 1 9999 = 0 then Z else if pc ≤ Z 0 7 (cl pp) then va_up (sKeep Z nx kp) 0 (sPay (Z 0) (cl pp) pc) else Z
def tEnd (z : Nat → Nat → Int32) : Int32 := bx_sum (z 5) 120
def tEndZ (Z : Nat → Nat → Nat → Int32) (nx kp : Nat) : Nat → Nat → Nat → Int32 := va_up (sKeep Z nx kp) 0 (sTerm (Z 0))
def tExcuse (z : Nat → Nat → Int32) (ee wh : Int32) : Int32 := if bH z ee = 0 then -1 else if wh = 0 then z 2 (cl ee) else if wh = 1 then z 3 (cl ee) else if wh = 2 then sUS z (cl ee) else if wh = 3 then z 4 (cl ee) else if wh = 4 then sUsers z (cl ee) else -2
def tPupil (z : Nat → Nat → Int32) (pp wh : Int32) : Int32 := if bW pp 0 9 = 0 then -1 else if wh = 0 then z 6 (cl pp) else if wh = 1 then z 7 (cl pp) else if wh = 2 then z 9 (cl pp) else if wh = 3 then z 10 (cl pp) else if wh = 4 then z 11 (cl pp) else if wh = 5 then sUP z (cl pp) else if wh = 6 then z 12 (cl pp / 2) else if wh = 7 then z 8 (cl pp) else -2
def tCount (z : Nat → Nat → Int32) (n : Nat) (pl kp wh : Int32) : Int32 :=
  if ¬ bW wh 0 4 = 0 then z 0 (cl wh) else if wh = 5 then z 1 0 else if wh = 6 then bx_sum (z 9) 10 else if wh = 7 then z 13 1 else if wh = 8 then z 13 2 else if wh = 9 then z 13 3 else if wh = 10 then z 13 4 else if wh = 11 then bx_sum (z 7) 10 else if wh = 12 then bx_sum (z 8) 10 else if wh = 13 then bx_sum (z 7) 10 + bx_sum (z 8) 10 else if wh = 14 then z 14 0 else if wh = 15 then bx_sum (z 6) 10 else if wh = 16 then bx_sum (z 12) 5 else if wh = 17 then sWOs z n else if wh = 18 then pl else if wh = 19 then kp else -2
/-- the best excuse among the first, and its weight -/
def sBE (z : Nat → Nat → Int32) (p : Nat) (mn : Int32) : Nat → Int32 × Int32
  | 0 => (-6, 0)
  | k + 1 => if sReason z p k (-6) mn = 0 then (if (sBE z p mn k).1 = -6 then (nI k, sWt z p k (-6) mn) else if sWt z p k (-6) mn ≤ (sBE z p mn k).2 then sBE z p mn k else (nI k, sWt z p k (-6) mn)) else sBE z p mn k
def tBestE (z : Nat → Nat → Int32) (n : Nat) (pp mn : Int32) : Int32 := if bW pp 0 9 = 0 then -1 else if bW mn 1 99 = 0 then -2 else (sBE z (cl pp) mn n).1
def sBW (z : Nat → Nat → Int32) (p e : Nat) (mn : Int32) : Nat → Int32 × Int32
  | 0 => (-6, 0)
  | k + 1 => if k = p then sBW z p e mn k else if z 6 k ≤ 0 then sBW z p e mn k else if (sBW z p e mn k).1 = -6 then (nI k, sWt z p e (nI k) mn) else if sWt z p e (nI k) mn ≤ (sBW z p e mn k).2 then sBW z p e mn k else (nI k, sWt z p e (nI k) mn)
def tBestW (z : Nat → Nat → Int32) (pp ee mn : Int32) : Int32 := if bW pp 0 9 = 0 then -1 else if bH z ee = 0 then -1 else if bW mn 1 99 = 0 then -2 else (sBW z (cl pp) (cl ee) mn 10).1
def sMM (z : Nat → Nat → Int32) (p e : Nat) : Nat → Int32
  | 0 => -6
  | k + 1 => if sReason z p e (-6) (nI (k + 1)) = 0 then nI (k + 1) else sMM z p e k
def tMost (z : Nat → Nat → Int32) (pp ee : Int32) : Int32 := if bW pp 0 9 = 0 then -1 else if bH z ee = 0 then -1 else sMM z (cl pp) (cl ee) 99
def tUndo (kp : Nat) : Int32 := if kp = 0 then -5 else nI (kp - 1)
def tUndoZ (Z : Nat → Nat → Nat → Int32) (nx kp : Nat) : Nat → Nat → Nat → Int32 := if kp = 0 then Z else sBack Z nx kp
theorem sBack_kept (Z : Nat → Nat → Nat → Int32) (nx kp : Nat) : sBack Z nx kp 12 2 0 = nI (kp - 1) := by
  unfold sBack
  rw [va_up_ne _ _ (by decide), va_up_e]
  rfl
def tSave (z : Nat → Nat → Int32) (sl : Int32) : Int32 := if bW sl 0 1 = 0 then -2 else z 14 0
def tSaveZ (Z : Nat → Nat → Nat → Int32) (sl : Int32) : Nat → Nat → Nat → Int32 := if bW sl 0 1 = 0 then Z else va_up (va_up Z (7 + cl sl) (sBec (Z (7 + cl sl)) (Z 0))) 12 (zu (Z 12) 4 (cl sl) 1)
def tRestore (Z : Nat → Nat → Nat → Int32) (nx kp : Nat) (sl : Int32) : Int32 := if bW sl 0 1 = 0 then -2 else if Z 12 4 (cl sl) = 0 then -5 else sKeep Z nx kp (7 + cl sl) 14 0
def tRestoreZ (Z : Nat → Nat → Nat → Int32) (nx kp : Nat) (sl : Int32) : Nat → Nat → Nat → Int32 := if bW sl 0 1 = 0 then Z else if Z 12 4 (cl sl) = 0 then Z else va_up (sKeep Z nx kp) 0 (sBec (Z 0) (sKeep Z nx kp (7 + cl sl)))
end
section
/-! characters of a number -/
def kC (x : Int64) (i : Nat) : Nat := x.toUInt64.toNat / 2 ^ (8 * i) % 256
theorem kC_lt (x : Int64) (i : Nat) : kC x i < 256 := Nat.mod_lt _ (by decide)
theorem kC_sh (x : Int64) {i : Nat} (hi : i < 8) : (x.toUInt64 >>> ((nI (8 * i)).toInt64.toUInt64 &&& Int64.toUInt64 63)).toNat = x.toUInt64.toNat / 2 ^ (8 * i) := by
  rcases (show i = 0 ∨ i = 1 ∨ i = 2 ∨ i = 3 ∨ i = 4 ∨ i = 5 ∨ i = 6 ∨ i = 7 by omega) with rfl | rfl | rfl | rfl | rfl | rfl | rfl | rfl <;>
    (rw [UInt64.toNat_shiftRight, Nat.shiftRight_eq_div_pow]; rfl)
theorem kC_at (x : Int64) {i : Nat} (hi : i < 8) : ((x.toUInt64 >>> ((nI (8 * i)).toInt64.toUInt64 &&& Int64.toUInt64 63)).toInt64.toInt32 &&& 255) = nI (kC x i) := by
  rw [pk_and _ 8 (by rfl)]
  congr 1
  generalize hy : (x.toUInt64 >>> ((nI (8 * i)).toInt64.toUInt64 &&& Int64.toUInt64 63)) = y
  have e1 : y.toNat = x.toUInt64.toNat / 2 ^ (8 * i) := by rw [← hy]; exact kC_sh x hi
  have e2 : y.toInt64.toInt32.toBitVec.toNat = y.toNat % 2 ^ 32 := by
    show (y.toBitVec.signExtend 32).toNat = _
    rw [BitVec.signExtend_eq_setWidth_of_le _ (by decide), BitVec.toNat_setWidth]
    rfl
  rw [e2, e1, kC]
  omega
theorem kC_z (x : Int64) {i : Nat} (hi : i < 8) : (lg_cmp (x.toUInt64 >>> ((nI (8 * i)).toInt64.toUInt64 &&& Int64.toUInt64 63)).toInt64 0 = 0) ↔ x.toUInt64.toNat / 2 ^ (8 * i) = 0 := by
  rw [← kC_sh x hi]
  generalize (x.toUInt64 >>> ((nI (8 * i)).toInt64.toUInt64 &&& Int64.toUInt64 63)) = y
  have e : y.toInt64 = 0 ↔ y.toNat = 0 := by
    constructor
    · intro h
      have h2 : y.toInt64.toUInt64 = (0 : Int64).toUInt64 := by rw [h]
      rw [UInt64.toUInt64_toInt64] at h2
      rw [h2]; rfl
    · intro h
      have h2 : y = 0 := UInt64.toNat_inj.mp h
      rw [h2]; rfl
  rw [← e]
  unfold lg_cmp
  by_cases h1 : y.toInt64 > 0
  · rw [if_pos h1]
    exact ⟨fun q => absurd q (by decide), fun q => by rw [q] at h1; exact absurd h1 (by decide)⟩
  · rw [if_neg h1]
    by_cases h2 : y.toInt64 = 0
    · rw [if_pos h2]
      exact ⟨fun _ => h2, fun _ => rfl⟩
    · rw [if_neg h2]
      exact ⟨fun q => absurd q (by decide), fun q => absurd q h2⟩
/-- how many characters a number gives, from the place i on; 0 if it is no such number -/
def sCh (x : Int64) : Nat → Nat → Nat
  | 0, i => i
  | m + 1, i => if kC x i = 0 then (if x.toUInt64.toNat / 2 ^ (8 * i) = 0 then i else 0) else if bW (nI (kC x i)) 33 126 = 0 then 0 else sCh x m (i + 1)
theorem sCh_le (x : Int64) : ∀ (m i : Nat), sCh x m i ≤ m + i
  | 0, i => by simp [sCh]
  | m + 1, i => by
    unfold sCh
    have h := sCh_le x m (i + 1)
    split
    · split <;> omega
    · split <;> omega
/-- the pad with m characters more: the places m - 1 down to 0 -/
def sApp (x : Int64) (z : Nat → Nat → Int32) (n : Nat) : Nat → Nat → Nat → Int32
  | 0 => z
  | k + 1 => sApp x (zu (zu z 0 n (nI (kC x k))) 1 0 (nI (n + 1))) (n + 1) k
end
section
theorem i_dec (x : Int32) : x + Int32.ofInt (-1) = x - 1 := by rw [Int32.sub_eq_add_neg]; rfl
theorem nI_char {a : Nat} (h : a < 65536) : ((nI a).toUInt32 % 65536).toInt32 = nI a := by rw [pk_char, pk_tn (by omega), Nat.mod_eq_of_lt h]
theorem nI_nar {a : Nat} (h : a < 65536) : vp_nar .char (nI a) = nI a := by
  unfold vp_nar
  rw [(pk_charN h).1]
theorem va_up_up {α : Type} (f : Nat → α) (k : Nat) (v w : α) : va_up (va_up f k v) k w = va_up f k w := bx_uu f k v w
theorem va_up_sw {α : Type} (f : Nat → α) {i j : Nat} (a b : α) (h : i ≠ j) : va_up (va_up f i a) j b = va_up (va_up f j b) i a := by
  funext k
  simp only [va_up]
  by_cases h1 : k = j
  · subst h1; simp [Ne.symm h]
  · by_cases h2 : k = i
    · subst h2; simp [h]
    · simp [h1, h2]
/-- the first place that cannot stand, and the reader that stops there -/
def cFlt (ch : Nat → Int32) : Nat → Nat → (Nat → Nat → Int32) → Int32 × (Nat → Nat → Int32)
  | 0, i, r => (if rEnd r = 0 then nI i else -6, r)
  | m + 1, i, r => if rB r (ch i) = 0 then (nI i, rT r (ch i)) else cFlt ch m (i + 1) (rT r (ch i))
def oB (z r : Nat → Nat → Int32) : Int32 := if bH z (r 2 0) = 0 then 0 else if sReason z (cl (r 1 0)) (cl (r 2 0)) (r 4 0) (r 3 0) = 0 then 1 else 0
def oZ (z r : Nat → Nat → Int32) : Nat → Nat → Int32 := if bH z (r 2 0) = 0 then z else sOffer z (cl (r 1 0)) (cl (r 2 0)) (r 4 0) (r 3 0)
/-- the offers of a text without a fault -/
def cRd (ch : Nat → Int32) : Nat → Nat → (Nat → Nat → Int32) → (Nat → Nat → Int32) → Int32 → (Nat → Nat → Int32) × (Nat → Nat → Int32) × Int32
  | 0, _, z, r, t => (oZ z r, r, t + oB z r)
  | m + 1, i, z, r, t => if ch i = 44 then cRd ch m (i + 1) (oZ z r) (rT r (ch i)) (t + oB z r) else cRd ch m (i + 1) z (rT r (ch i)) t
theorem bW_off {c lo hi : Int32} {a b : Nat} (hlo : lo = nI a) (hhi : hi = nI b) (hab : a ≤ b) (hb : b < 2 ^ 20) (h : ¬ bW c lo hi = 0) : ∃ d : Nat, d ≤ b - a ∧ c = nI (a + d) ∧ c - lo = nI d := by
  subst hlo; subst hhi
  obtain ⟨h1, h2⟩ := bW_pos h
  have h0 : ¬ c < 0 := fun q => h1 (Int32.lt_of_lt_of_le q (nI_pos' (by omega)))
  obtain ⟨j, hj, rfl⟩ := nI_of h0
  have g1 : a ≤ j := Nat.le_of_not_lt (fun q => h1 ((nI_ltI hj (by omega)).mpr q))
  have g2 : j ≤ b := Nat.le_of_not_lt (fun q => h2 ((nI_ltI (by omega) hj).mpr q))
  refine ⟨j - a, by omega, by rw [show a + (j - a) = j by omega], pk_sub g1⟩
def rInv (r : Nat → Nat → Int32) : Prop := ∃ pl : Nat, pl ≤ 7 ∧ r 0 0 = nI pl ∧ (1 ≤ pl → ∃ p : Nat, p < 10 ∧ r 1 0 = nI p) ∧ (2 ≤ pl → ∃ e : Nat, e < 12 ∧ r 2 0 = nI e) ∧ (r 4 0 = -6 ∨ ∃ w : Nat, w < 10 ∧ r 4 0 = nI w)
theorem rInv_begin (r : Nat → Nat → Int32) : rInv (rBegin r) := ⟨0, by decide, rfl, fun h => absurd h (by decide), fun h => absurd h (by decide), Or.inl rfl⟩
theorem rDig_d {c : Int32} (h : ¬ rDig c = 0) : ∃ d : Nat, d < 10 ∧ c = nI (48 + d) ∧ c - 48 = nI d := by
  obtain ⟨d, h1, h2, h3⟩ := bW_off (a := 48) (b := 57) rfl rfl (by decide) (by decide) h
  exact ⟨d, by omega, h2, h3⟩
theorem rComma_inv {r : Nat → Nat → Int32} {c : Int32} (h : ¬ bE c 44 = 0) : rInv (rComma r c) := by
  have hc : c = 44 := by
    unfold bE at h
    by_cases q : c = 44
    · exact q
    · rw [if_neg q] at h; exact absurd rfl h
  subst hc
  exact ⟨0, by decide, rfl, fun h => absurd h (by decide), fun h => absurd h (by decide), Or.inl rfl⟩
theorem rAfter_inv {r : Nat → Nat → Int32} {c : Int32} {pl : Nat} (hr : rInv r) (h0 : r 0 0 = nI pl) (hpl : 2 ≤ pl) (hp7 : pl ≤ 7) (h : ¬ rAfterB c = 0) : rInv (rAfter r c) := by
  obtain ⟨q, hq, e0, e1, e2, e4⟩ := hr
  have hqp : q = pl := (nI_eq (by omega) (by omega)).mp (e0.symm.trans h0)
  subst hqp
  unfold rAfter
  unfold rAfterB at h
  by_cases c1 : c = 119
  · rw [if_pos c1]
    exact ⟨6, by decide, rfl, fun _ => e1 (by omega), fun _ => e2 hpl, e4⟩
  · rw [if_neg c1] at h ⊢
    exact rComma_inv h
theorem rInv_next {r : Nat → Nat → Int32} {c : Int32} (hr : rInv r) (h : ¬ rB r c = 0) : rInv (rT r c) := by
  have hr0 := hr
  obtain ⟨pl, hpl, e0, e1, e2, e4⟩ := hr
  rcases (show pl = 0 ∨ pl = 1 ∨ pl = 2 ∨ pl = 3 ∨ pl = 4 ∨ pl = 5 ∨ pl = 6 ∨ pl = 7 by omega) with rfl | rfl | rfl | rfl | rfl | rfl | rfl | rfl
  · have q0 : r 0 0 = 0 := e0
    rw [show rB r c = rDig c by simp [rB, q0]] at h
    rw [show rT r c = rPupil r c by simp [rT, q0]]
    obtain ⟨d, hd, -, hd2⟩ := rDig_d h
    unfold rPupil rGo
    rw [if_neg h, if_neg h]
    exact ⟨1, by decide, rfl, fun _ => ⟨d, hd, hd2⟩, fun q => absurd q (by decide), e4⟩
  · have q0 : r 0 0 = 1 := e0
    rw [show rB r c = bW c 97 108 by simp [rB, q0]] at h
    rw [show rT r c = rExcuse r c by simp [rT, q0]]
    obtain ⟨d, hd, -, hd2⟩ := bW_off (a := 97) (b := 108) rfl rfl (by decide) (by decide) h
    unfold rExcuse rGo
    rw [if_neg h, if_neg h]
    exact ⟨2, by decide, rfl, fun _ => e1 (by decide), fun _ => ⟨d, by omega, hd2⟩, e4⟩
  · have q0 : r 0 0 = 2 := e0
    rw [show rB r c = bE c 109 by simp [rB, q0]] at h
    rw [show rT r c = rGo r (bE c 109) 3 by simp [rT, q0]]
    unfold rGo
    rw [if_neg h]
    exact ⟨3, by decide, rfl, fun _ => e1 (by decide), fun _ => e2 (by decide), e4⟩
  · have q0 : r 0 0 = 3 := e0
    by_cases c1 : c = 48
    · exact absurd (by simp [rB, q0, c1]) h
    · rw [show rB r c = rDig c by simp [rB, q0, c1]] at h
      rw [show rT r c = rMin r c 0 4 by simp [rT, q0, c1]]
      unfold rMin rGo
      rw [if_neg h, if_neg h]
      exact ⟨4, by decide, rfl, fun _ => e1 (by decide), fun _ => e2 (by decide), e4⟩
  · have q0 : r 0 0 = 4 := e0
    by_cases c1 : rDig c = 0
    · rw [show rB r c = rAfterB c by simp [rB, q0, c1]] at h
      have em : rMin r c (r 3 0) 5 = r := by unfold rMin rGo; rw [if_pos c1, if_pos c1]
      rw [show rT r c = rAfter r c by simp [rT, q0, c1, em]]
      exact rAfter_inv hr0 e0 (by decide) (by decide) h
    · rw [show rT r c = rMin r c (r 3 0) 5 by simp [rT, q0, c1]]
      unfold rMin rGo
      rw [if_neg c1, if_neg c1]
      exact ⟨5, by decide, rfl, fun _ => e1 (by decide), fun _ => e2 (by decide), e4⟩
  · have q0 : r 0 0 = 5 := e0
    rw [show rB r c = rAfterB c by simp [rB, q0]] at h
    rw [show rT r c = rAfter r c by simp [rT, q0]]
    exact rAfter_inv hr0 e0 (by decide) (by decide) h
  · have q0 : r 0 0 = 6 := e0
    rw [show rB r c = rWitB r c by simp [rB, q0]] at h
    rw [show rT r c = rWit r c by simp [rT, q0]]
    have hd0 : ¬ rDig c = 0 := fun q => h (by unfold rWitB; rw [if_pos q])
    obtain ⟨d, hd, -, hd2⟩ := rDig_d hd0
    unfold rWit rGo
    rw [if_neg h, if_neg h]
    exact ⟨7, by decide, rfl, fun _ => e1 (by decide), fun _ => e2 (by decide), Or.inr ⟨d, hd, hd2⟩⟩
  · have q0 : r 0 0 = 7 := e0
    rw [show rB r c = bE c 44 by simp [rB, q0]] at h
    rw [show rT r c = rComma r c by simp [rT, q0]]
    exact rComma_inv h
def rFull (r : Nat → Nat → Int32) : Prop := ∃ p e : Nat, p < 10 ∧ e < 12 ∧ r 1 0 = nI p ∧ r 2 0 = nI e ∧ (r 4 0 = -6 ∨ ∃ w : Nat, w < 10 ∧ r 4 0 = nI w)
theorem rFull_pl {r : Nat → Nat → Int32} (hr : rInv r) (h : ∀ pl : Nat, pl ≤ 1 → ¬ r 0 0 = nI pl) : rFull r := by
  obtain ⟨pl, hpl, e0, e1, e2, e4⟩ := hr
  have h2 : 2 ≤ pl := Nat.lt_of_not_le (fun q => h pl q e0)
  obtain ⟨p, hp, ep⟩ := e1 (by omega)
  obtain ⟨e, he, ee⟩ := e2 h2
  exact ⟨p, e, hp, he, ep, ee, e4⟩
theorem rFull_comma {r : Nat → Nat → Int32} (hr : rInv r) (h : ¬ rB r 44 = 0) : rFull r := by
  refine rFull_pl hr (fun pl hpl q => h ?_)
  rcases (show pl = 0 ∨ pl = 1 by omega) with rfl | rfl
  · unfold rB; rw [if_pos (show r 0 0 = 0 from q)]; rfl
  · have q0 : r 0 0 = 1 := q
    rw [show rB r 44 = bW 44 97 108 by simp [rB, q0]]; rfl
theorem rFull_end {r : Nat → Nat → Int32} (hr : rInv r) (h : ¬ rEnd r = 0) : rFull r := by
  refine rFull_pl hr (fun pl hpl q => h ?_)
  rcases (show pl = 0 ∨ pl = 1 by omega) with rfl | rfl
  · have q0 : r 0 0 = 0 := q
    unfold rEnd; rw [q0]; rfl
  · have q0 : r 0 0 = 1 := q
    unfold rEnd; rw [q0]; rfl
theorem cFlt_0 {ch : Nat → Int32} {i : Nat} {r : Nat → Nat → Int32} (hi : i < 2 ^ 30) (h : (cFlt ch 0 i r).1 = -6) : ¬ rEnd r = 0 := by
  intro q
  simp only [cFlt, q, if_true] at h
  exact absurd (congrArg (fun z => decide (z < 0)) h) (by simp only [decide_eq_false (nI_pos (show i < 2 ^ 31 by omega))]; decide)
theorem cFlt_s {ch : Nat → Int32} {m i : Nat} {r : Nat → Nat → Int32} (hi : i < 2 ^ 30) (h : (cFlt ch (m + 1) i r).1 = -6) : ¬ rB r (ch i) = 0 ∧ (cFlt ch m (i + 1) (rT r (ch i))).1 = -6 := by
  by_cases q : rB r (ch i) = 0
  · simp only [cFlt, q, if_true] at h
    exact absurd (congrArg (fun z => decide (z < 0)) h) (by simp only [decide_eq_false (nI_pos (show i < 2 ^ 31 by omega))]; decide)
  · simp only [cFlt, q, if_false] at h
    exact ⟨q, h⟩
def tFault (Z : Nat → Nat → Nat → Int32) (pl : Nat) : Int32 × (Nat → Nat → Int32) := cFlt (Z 9 0) pl 0 (rBegin (Z 10))
def tReadK (Z : Nat → Nat → Nat → Int32) (nx kp pl : Nat) : Nat → Nat → Nat → Int32 := sKeep (va_up Z 10 (tFault Z pl).2) nx kp
def tReadD (Z : Nat → Nat → Nat → Int32) (nx kp pl : Nat) : (Nat → Nat → Int32) × (Nat → Nat → Int32) × Int32 := cRd (Z 9 0) pl 0 (Z 0) (rBegin (tReadK Z nx kp pl 10)) 0
def tRead (Z : Nat → Nat → Nat → Int32) (nx kp pl : Nat) : Int32 := if (tFault Z pl).1 = -6 then (tReadD Z nx kp pl).2.2 else -3
def tReadZ (Z : Nat → Nat → Nat → Int32) (nx kp pl : Nat) : Nat → Nat → Nat → Int32 := if (tFault Z pl).1 = -6 then va_up (va_up (va_up (tReadK Z nx kp pl) 0 (tReadD Z nx kp pl).1) 10 (tReadD Z nx kp pl).2.1) 9 (zu (tReadK Z nx kp pl 9) 1 0 0) else va_up Z 10 (tFault Z pl).2
theorem tReadK_9 {Z : Nat → Nat → Nat → Int32} {nx kp pl : Nat} (h : nx < 6) : tReadK Z nx kp pl 9 = Z 9 := by
  unfold tReadK sKeep
  rw [va_up_ne _ _ (by decide), va_up_ne _ _ (by omega), va_up_ne _ _ (by decide)]
def tPut (x : Int64) (pl : Nat) : Int32 := if sCh x 8 0 = 0 then -2 else if pl + sCh x 8 0 ≤ 60 then nI (pl + sCh x 8 0) else -4
def tPutZ (Z : Nat → Nat → Nat → Int32) (x : Int64) (pl : Nat) : Nat → Nat → Nat → Int32 := if sCh x 8 0 = 0 then Z else if pl + sCh x 8 0 ≤ 60 then va_up Z 9 (sApp x (Z 9) pl (sCh x 8 0)) else Z
/-- what decides whether a character may stand: the place, and the pupil once it is read -/
def rSame (r r2 : Nat → Nat → Int32) : Prop := r 0 0 = r2 0 0 ∧ (r 0 0 = 0 ∨ r 1 0 = r2 1 0)
theorem rSame_begin (r r2 : Nat → Nat → Int32) : rSame (rBegin r) (rBegin r2) := ⟨rfl, Or.inl rfl⟩
theorem rSame_B {r r2 : Nat → Nat → Int32} (h : rSame r r2) (c : Int32) : rB r c = rB r2 c := by
  obtain ⟨h0, h1⟩ := h
  rcases h1 with h1 | h1
  · simp only [rB, ← h0, h1, if_true]
  · simp only [rB, ← h0, rWitB, h1]
theorem rSame_go {r r2 : Nat → Nat → Int32} (h : rSame r r2) (b nx : Int32) (h1 : r 1 0 = r2 1 0) : rSame (rGo r b nx) (rGo r2 b nx) := by
  unfold rGo
  by_cases c : b = 0
  · rw [if_pos c, if_pos c]; exact h
  · rw [if_neg c, if_neg c]; exact ⟨rfl, Or.inr h1⟩
theorem rSame_T {r r2 : Nat → Nat → Int32} (h : rSame r r2) (c : Int32) : rSame (rT r c) (rT r2 c) := by
  obtain ⟨h0, h1⟩ := h
  by_cases q0 : r 0 0 = 0
  · have q2 : r2 0 0 = 0 := h0 ▸ q0
    rw [show rT r c = rPupil r c by simp [rT, q0], show rT r2 c = rPupil r2 c by simp [rT, q2]]
    unfold rPupil
    by_cases d : rDig c = 0
    · simp only [d, rGo, if_true]; exact ⟨h0, h1⟩
    · simp only [d, rGo, if_false]; exact ⟨rfl, Or.inr rfl⟩
  · have e1 : r 1 0 = r2 1 0 := h1.resolve_left q0
    have hs : rSame r r2 := ⟨h0, h1⟩
    have hu : ∀ k v, k ≠ 0 → k ≠ 1 → rSame (zu r k 0 v) (zu r2 k 0 v) ∧ (zu r k 0 v) 1 0 = (zu r2 k 0 v) 1 0 := fun k v hk hk1 => by
      have a0 : zu r k 0 v 0 = r 0 := zu_o (Ne.symm hk)
      have a1 : zu r k 0 v 1 = r 1 := zu_o (Ne.symm hk1)
      have b0 : zu r2 k 0 v 0 = r2 0 := zu_o (Ne.symm hk)
      have b1 : zu r2 k 0 v 1 = r2 1 := zu_o (Ne.symm hk1)
      exact ⟨⟨by rw [a0, b0]; exact h0, Or.inr (by rw [a1, b1]; exact e1)⟩, by rw [a1, b1]; exact e1⟩
    have hu2 : ∀ k v w, k ≠ 0 → k ≠ 1 → rSame (zu r k 0 v) (zu r2 k 0 w) ∧ (zu r k 0 v) 1 0 = (zu r2 k 0 w) 1 0 := fun k v w hk hk1 => by
      have a0 : zu r k 0 v 0 = r 0 := zu_o (Ne.symm hk)
      have a1 : zu r k 0 v 1 = r 1 := zu_o (Ne.symm hk1)
      have b0 : zu r2 k 0 w 0 = r2 0 := zu_o (Ne.symm hk)
      have b1 : zu r2 k 0 w 1 = r2 1 := zu_o (Ne.symm hk1)
      exact ⟨⟨by rw [a0, b0]; exact h0, Or.inr (by rw [a1, b1]; exact e1)⟩, by rw [a1, b1]; exact e1⟩
    have hcomma : rSame (rComma r c) (rComma r2 c) := by
      unfold rComma
      by_cases d : c = 44
      · rw [if_pos d, if_pos d]; exact rSame_go (hu 4 _ (by decide) (by decide)).1 _ _ (hu 4 _ (by decide) (by decide)).2
      · rw [if_neg d, if_neg d]; exact rSame_go hs _ _ e1
    have hafter : rSame (rAfter r c) (rAfter r2 c) := by
      unfold rAfter
      by_cases d : c = 119
      · rw [if_pos d, if_pos d]; exact ⟨rfl, Or.inr e1⟩
      · rw [if_neg d, if_neg d]; exact hcomma
    have hmin : ∀ t t2 nx, rSame (rMin r c t nx) (rMin r2 c t2 nx) := fun t t2 nx => by
      unfold rMin
      by_cases d : rDig c = 0
      · rw [if_pos d, if_pos d]; exact rSame_go hs _ _ e1
      · rw [if_neg d, if_neg d]; exact rSame_go (hu2 3 _ _ (by decide) (by decide)).1 _ _ (hu2 3 _ _ (by decide) (by decide)).2
    have hmin0 : rDig c = 0 → ∀ (q : Nat → Nat → Int32) t nx, rMin q c t nx = q := fun d q t nx => by unfold rMin rGo; rw [if_pos d, if_pos d]
    unfold rT
    rw [← h0]
    simp only [q0, if_false]
    split
    · unfold rExcuse
      by_cases d : bW c 97 108 = 0
      · rw [if_pos d, if_pos d]; exact rSame_go hs _ _ e1
      · rw [if_neg d, if_neg d]; exact rSame_go (hu 2 _ (by decide) (by decide)).1 _ _ (hu 2 _ (by decide) (by decide)).2
    · split
      · exact rSame_go hs _ _ e1
      · split
        · split
          · exact hs
          · exact hmin _ _ _
        · split
          · split
            · rename_i d
              rw [hmin0 d, hmin0 d]; exact hafter
            · exact hmin _ _ _
          · split
            · exact hafter
            · split
              · unfold rWit
                rw [show rWitB r2 c = rWitB r c by simp only [rWitB, e1]]
                by_cases d : rWitB r c = 0
                · rw [if_pos d, if_pos d]; exact rSame_go hs _ _ e1
                · rw [if_neg d, if_neg d]; exact rSame_go (hu 4 _ (by decide) (by decide)).1 _ _ (hu 4 _ (by decide) (by decide)).2
              · exact hcomma
theorem cFlt_same (ch : Nat → Int32) : ∀ (m i : Nat) (r r2 : Nat → Nat → Int32), rSame r r2 → (cFlt ch m i r).1 = (cFlt ch m i r2).1
  | 0, i, r, r2, h => by
    have e : rEnd r = rEnd r2 := by unfold rEnd; rw [h.1]
    show (if rEnd r = 0 then nI i else -6) = (if rEnd r2 = 0 then nI i else -6)
    rw [e]
  | m + 1, i, r, r2, h => by
    simp only [cFlt, rSame_B h]
    split
    · rfl
    · exact cFlt_same ch m (i + 1) _ _ (rSame_T h _)
theorem rd_begin {Z K : Nat → Nat → Nat → Int32} {nx kp pl : Nat} (_ : K = tReadK Z nx kp pl) (_ : nx < 6) (h : (tFault Z pl).1 = -6) : (cFlt (Z 9 0) pl 0 (rBegin (K 10))).1 = -6 := (cFlt_same _ _ _ _ _ (rSame_begin _ _)).trans h
end
section
/-! ===== the reference: one row w of 234 numbers; where it keeps what a school's table z holds ===== -/
def mp (k i : Nat) : Nat := match k with
  | 0 => i | 1 => 5 | 2 => 18 + 3 * i | 3 => 18 + 3 * i + 1 | 4 => 18 + 3 * i + 2 | 5 => 114 + 10 * (i % 12) + i / 12 | 6 => 54 + 6 * i | 7 => 54 + 6 * i + 1 | 8 => 54 + 6 * i + 5 | 9 => 54 + 6 * i + 2 | 10 => 54 + 6 * i + 3 | 11 => 54 + 6 * i + 4 | 12 => 13 + i | 13 => 6 + i | _ => 11
def mv (k i : Nat) : Prop := match k with
  | 0 => i < 5 | 1 => i = 0 | 2 => i < 12 | 3 => i < 12 | 4 => i < 12 | 5 => i < 120 | 6 => i < 10 | 7 => i < 10 | 8 => i < 10 | 9 => i < 10 | 10 => i < 10 | 11 => i < 10 | 12 => i < 5 | 13 => 1 ≤ i ∧ i ≤ 4 | 14 => i = 0 | _ => False
theorem mv_lt {k i : Nat} (h : mv k i) : k < 15 := by
  by_cases q : k < 15
  · exact q
  · exfalso
    unfold mv at h
    split at h <;> first | omega | exact h
theorem mp_inj {k i l j : Nat} (h1 : mv k i) (h2 : mv l j) (h : mp k i = mp l j) : k = l ∧ i = j := by
  have hk := mv_lt h1
  have hl := mv_lt h2
  rcases (show k = 0 ∨ k = 1 ∨ k = 2 ∨ k = 3 ∨ k = 4 ∨ k = 5 ∨ k = 6 ∨ k = 7 ∨ k = 8 ∨ k = 9 ∨ k = 10 ∨ k = 11 ∨ k = 12 ∨ k = 13 ∨ k = 14 by omega) with rfl | rfl | rfl | rfl | rfl | rfl | rfl | rfl | rfl | rfl | rfl | rfl | rfl | rfl | rfl <;>
  rcases (show l = 0 ∨ l = 1 ∨ l = 2 ∨ l = 3 ∨ l = 4 ∨ l = 5 ∨ l = 6 ∨ l = 7 ∨ l = 8 ∨ l = 9 ∨ l = 10 ∨ l = 11 ∨ l = 12 ∨ l = 13 ∨ l = 14 by omega) with rfl | rfl | rfl | rfl | rfl | rfl | rfl | rfl | rfl | rfl | rfl | rfl | rfl | rfl | rfl <;>
  simp only [mv, mp] at h1 h2 h <;> omega
theorem mp_lt {k i : Nat} (h : mv k i) : mp k i < 234 := by
  have hk := mv_lt h
  rcases (show k = 0 ∨ k = 1 ∨ k = 2 ∨ k = 3 ∨ k = 4 ∨ k = 5 ∨ k = 6 ∨ k = 7 ∨ k = 8 ∨ k = 9 ∨ k = 10 ∨ k = 11 ∨ k = 12 ∨ k = 13 ∨ k = 14 by omega) with rfl | rfl | rfl | rfl | rfl | rfl | rfl | rfl | rfl | rfl | rfl | rfl | rfl | rfl | rfl <;>
  simp only [mv, mp] at h ⊢ <;> omega
def mR (z : Nat → Nat → Int32) (w : Nat → Int32) : Prop := ∀ k i : Nat, mv k i → w (mp k i) = z k i
theorem mR.up {z : Nat → Nat → Int32} {w : Nat → Int32} (h : mR z w) {k i : Nat} (hv : mv k i) (v : Int32) : mR (zu z k i v) (va_up w (mp k i) v) := by
  intro l j hl
  by_cases e : mp l j = mp k i
  · obtain ⟨rfl, rfl⟩ := mp_inj hl hv e
    simp [va_up, zu]
  · rw [va_up_ne _ _ e, h l j hl]
    by_cases e1 : l = k
    · subst e1
      rw [zu_en (fun q => e (by rw [q]))]
    · rw [zu_o e1]
/-- a place that the table does not speak of -/
theorem mR.off {z : Nat → Nat → Int32} {w : Nat → Int32} (h : mR z w) {n : Nat} (hn : n = 6 ∨ n = 12) (v : Int32) : mR z (va_up w n v) := by
  intro l j hl
  rw [va_up_ne _ _ ?_, h l j hl]
  intro q
  have hk := mv_lt hl
  rcases (show l = 0 ∨ l = 1 ∨ l = 2 ∨ l = 3 ∨ l = 4 ∨ l = 5 ∨ l = 6 ∨ l = 7 ∨ l = 8 ∨ l = 9 ∨ l = 10 ∨ l = 11 ∨ l = 12 ∨ l = 13 ∨ l = 14 by omega) with rfl | rfl | rfl | rfl | rfl | rfl | rfl | rfl | rfl | rfl | rfl | rfl | rfl | rfl | rfl <;>
  simp only [mv, mp] at hl q <;> omega
end
section
/-! ===== p25: two tables that agree at every place that counts; all that is seen of a state, as one number ===== -/
theorem bx_congr {f g : Nat → Int32} : ∀ {n : Nat}, (∀ j : Nat, j < n → f j = g j) → bx_sum f n = bx_sum g n
  | 0, _ => rfl
  | n + 1, h => by
    show bx_sum f n + f n = bx_sum g n + g n
    rw [bx_congr (fun j hj => h j (by omega)), h n (by omega)]
theorem va_cpy0 {f g : Nat → Int32} {n i : Nat} (h : i < n) : va_cpy f g 0 0 n i = f i := by
  unfold va_cpy
  rw [if_pos ⟨by omega, by omega⟩, Nat.sub_zero, Nat.zero_add]
theorem sBec_at {z w : Nat → Nat → Int32} {k i : Nat} (h : mv k i) : sBec z w k i = w k i := by
  have hk := mv_lt h
  rcases (show k = 0 ∨ k = 1 ∨ k = 2 ∨ k = 3 ∨ k = 4 ∨ k = 5 ∨ k = 6 ∨ k = 7 ∨ k = 8 ∨ k = 9 ∨ k = 10 ∨ k = 11 ∨ k = 12 ∨ k = 13 ∨ k = 14 by omega) with rfl | rfl | rfl | rfl | rfl | rfl | rfl | rfl | rfl | rfl | rfl | rfl | rfl | rfl | rfl
  · exact va_cpy0 (n := 5) h
  · have h : i = 0 := h; subst h; rfl
  · exact va_cpy0 (n := 12) h
  · exact va_cpy0 (n := 12) h
  · exact va_cpy0 (n := 12) h
  · exact va_cpy0 (n := 120) h
  · exact va_cpy0 (n := 10) h
  · exact va_cpy0 (n := 10) h
  · exact va_cpy0 (n := 10) h
  · exact va_cpy0 (n := 10) h
  · exact va_cpy0 (n := 10) h
  · exact va_cpy0 (n := 10) h
  · exact va_cpy0 (n := 5) h
  · have h : 1 ≤ i ∧ i ≤ 4 := h; exact va_cpy0 (n := 5) (by omega)
  · have h : i = 0 := h; subst h; rfl
def sm (z w : Nat → Nat → Int32) : Prop := ∀ k i : Nat, mv k i → z k i = w k i
theorem sSet_congr {f g : Nat → Int32} : ∀ {n : Nat}, (∀ j : Nat, j < n → f j = g j) → sSet f n = sSet g n
  | 0, _ => rfl
  | n + 1, h => by
    show (if 0 < f n then sSet f n ||| (1 <<< (nI n &&& 31)) else sSet f n) = (if 0 < g n then sSet g n ||| (1 <<< (nI n &&& 31)) else sSet g n)
    rw [sSet_congr (fun j hj => h j (by omega)), h n (by omega)]
theorem sCnt_congr {f g : Nat → Int32} : ∀ {n : Nat}, (∀ j : Nat, j < n → f j = g j) → sCnt f n = sCnt g n
  | 0, _ => rfl
  | n + 1, h => by
    show (if f n = 0 then sCnt f n else sCnt f n + 1) = (if g n = 0 then sCnt g n else sCnt g n + 1)
    rw [sCnt_congr (fun j hj => h j (by omega)), h n (by omega)]
section SM
variable {z w v : Nat → Nat → Int32} {n p e m : Nat}
theorem sm.rf : sm z z := fun _ _ _ => rfl
theorem sm.symm (h : sm z w) : sm w z := fun k i hv => (h k i hv).symm
theorem sm.trans (h : sm z w) (h2 : sm w v) : sm z v := fun k i hv => (h k i hv).trans (h2 k i hv)
theorem sm_bec : sm (sBec z w) w := fun _ _ hv => sBec_at hv
theorem sm_sU (h : sm z w) (hp : p < 10) (he : e < 12) : sU z p e = sU w p e := h 5 _ (show p * 12 + e < 120 by omega)
theorem sm_sUP (h : sm z w) (hp : p < 10) : sUP z p = sUP w p := bx_congr (fun _ he => sm_sU h hp he)
theorem sm_sUS (h : sm z w) (he : e < 12) : sUS z e = sUS w e := bx_congr (fun p hp => h 5 _ (show e + 12 * p < 120 by omega))
theorem sm_sUC (h : sm z w) (hm : m < 5) (he : e < 12) : sUC z m e = sUC w m e := by
  unfold sUC
  rw [h 5 (2 * m * 12 + e) (show 2 * m * 12 + e < 120 by omega), h 5 (2 * m * 12 + e + 12) (show 2 * m * 12 + e + 12 < 120 by omega)]
theorem sm_nov (h : sm z w) (hp : p < 10) (he : e < 12) : sNov z p e = sNov w p e := by
  unfold sNov
  rw [h 0 1 (show 1 < 5 by decide), sm_sUS h he, sm_sUC h (show p / 2 < 5 by omega) he]
theorem sm_users (h : sm z w) (he : e < 12) : sUsers z e = sUsers w e := sSet_congr (fun _ hp => sm_sU h hp he)
theorem sm_WO (h : sm z w) (he : e < 12) : sWO z e = sWO w e := by
  unfold sWO
  by_cases c : ∀ p : Nat, p < 10 → sNov z p e ≤ 0
  · rw [if_pos c, if_pos (fun p hp => by rw [← sm_nov h hp he]; exact c p hp)]
  · rw [if_neg c, if_neg (fun q => c (fun p hp => by rw [sm_nov h hp he]; exact q p hp))]
theorem sm_bH (h : sm z w) (ee : Int32) : bH z ee = bH w ee := by unfold bH; rw [h 1 0 rfl]
theorem sm_count (h : sm z w) (hn : n ≤ 12) (pl kp wh : Int32) : tCount z n pl kp wh = tCount w n pl kp wh := by
  unfold tCount
  by_cases c : ¬ bW wh 0 4 = 0
  · rw [if_pos c, if_pos c]
    obtain ⟨j, hj, rfl⟩ := bW_nat (m := 4) rfl (by decide) c
    rw [cl_nI (by omega)]; exact h 0 j (show j < 5 by omega)
  · rw [if_neg c, if_neg c, h 1 0 rfl, show bx_sum (z 9) 10 = bx_sum (w 9) 10 from bx_congr (fun k hk => h 9 k hk), h 13 1 (show 1 ≤ 1 ∧ 1 ≤ 4 by decide), h 13 2 (show 1 ≤ 2 ∧ 2 ≤ 4 by decide), h 13 3 (show 1 ≤ 3 ∧ 3 ≤ 4 by decide), h 13 4 (show 1 ≤ 4 ∧ 4 ≤ 4 by decide), show bx_sum (z 7) 10 = bx_sum (w 7) 10 from bx_congr (fun k hk => h 7 k hk), show bx_sum (z 8) 10 = bx_sum (w 8) 10 from bx_congr (fun k hk => h 8 k hk), h 14 0 rfl, show bx_sum (z 6) 10 = bx_sum (w 6) 10 from bx_congr (fun k hk => h 6 k hk), show bx_sum (z 12) 5 = bx_sum (w 12) 5 from bx_congr (fun k hk => h 12 k hk), show sWOs z n = sWOs w n from sCnt_congr (fun e he => sm_WO h (by omega))]
theorem sm_pupil (h : sm z w) (pp wh : Int32) : tPupil z pp wh = tPupil w pp wh := by
  unfold tPupil
  by_cases c : bW pp 0 9 = 0
  · rw [if_pos c, if_pos c]
  · rw [if_neg c, if_neg c]
    obtain ⟨p, hp, rfl⟩ := bW_nat (m := 9) rfl (by decide) c
    have hp : p < 10 := by omega
    rw [cl_nI (by omega), h 6 p hp, h 7 p hp, h 9 p hp, h 10 p hp, h 11 p hp, sm_sUP h hp, h 12 (p / 2) (show p / 2 < 5 by omega), h 8 p hp]
theorem sm_excuse (h : sm z w) (hn1 : w 1 0 = nI n) (hn : n ≤ 12) (ee wh : Int32) : tExcuse z ee wh = tExcuse w ee wh := by
  unfold tExcuse
  rw [sm_bH h]
  by_cases c : bH w ee = 0
  · rw [if_pos c, if_pos c]
  · rw [if_neg c, if_neg c]
    obtain ⟨e, he, rfl⟩ := bH_nat hn1 (by omega) c
    have he : e < 12 := by omega
    rw [cl_nI (by omega), h 2 e he, h 3 e he, sm_sUS h he, h 4 e he, sm_users h he]
theorem sm_novelty (h : sm z w) (hn1 : w 1 0 = nI n) (hn : n ≤ 12) (pp ee : Int32) : tNovelty z pp ee = tNovelty w pp ee := by
  unfold tNovelty
  rw [sm_bH h]
  by_cases c : bW pp 0 9 = 0
  · rw [if_pos c, if_pos c]
  · rw [if_neg c, if_neg c]
    by_cases c2 : bH w ee = 0
    · rw [if_pos c2, if_pos c2]
    · rw [if_neg c2, if_neg c2]
      obtain ⟨p, hp, rfl⟩ := bW_nat (m := 9) rfl (by decide) c
      obtain ⟨e, he, rfl⟩ := bH_nat hn1 (by omega) c2
      rw [cl_nI (by omega), cl_nI (by omega)]
      exact sm_nov h (by omega) (by omega)
end SM
def sn1 (z : Nat → Nat → Int32) (n : Nat) : Nat → Int64 | 0 => 197 | k + 1 => 31 * sn1 z n k + (tCount z n 0 0 (nI k)).toInt64
def sn2 (z : Nat → Nat → Int32) (n : Nat) : Nat → Int64 | 0 => sn1 z n 18 | k + 1 => 31 * (31 * sn2 z n k + (tPupil z (nI (k / 8)) (nI (k % 8))).toInt64) + (tExcuse z (nI (k / 6)) (nI (k % 5))).toInt64
def sn3 (z : Nat → Nat → Int32) (n : Nat) : Nat → Int64 | 0 => sn2 z n 80 | k + 1 => 31 * (31 * sn3 z n k + (tExcuse z (nI (k / 5)) (nI (k % 5))).toInt64) + (tNovelty z (nI (k % 10)) (nI (k / 5))).toInt64
def sSeen (z : Nat → Nat → Int32) (n : Nat) : Int64 := sn3 z n 60
theorem tCount_lo (z : Nat → Nat → Int32) (n : Nat) (pl kp : Int32) {k : Nat} (hk : k < 18) : tCount z n pl kp (nI k) = tCount z n 0 0 (nI k) := by
  rcases (show k = 0 ∨ k = 1 ∨ k = 2 ∨ k = 3 ∨ k = 4 ∨ k = 5 ∨ k = 6 ∨ k = 7 ∨ k = 8 ∨ k = 9 ∨ k = 10 ∨ k = 11 ∨ k = 12 ∨ k = 13 ∨ k = 14 ∨ k = 15 ∨ k = 16 ∨ k = 17 by omega) with rfl | rfl | rfl | rfl | rfl | rfl | rfl | rfl | rfl | rfl | rfl | rfl | rfl | rfl | rfl | rfl | rfl | rfl <;> rfl
theorem sm_seen {z w : Nat → Nat → Int32} {n : Nat} (h : sm z w) (hn1 : w 1 0 = nI n) (hn : n ≤ 12) : sSeen z n = sSeen w n := by
  have e1 : ∀ k : Nat, sn1 z n k = sn1 w n k := fun k => by
    induction k with
    | zero => rfl
    | succ k ih => unfold sn1; rw [ih, sm_count h hn]
  have e2 : ∀ k : Nat, sn2 z n k = sn2 w n k := fun k => by
    induction k with
    | zero => exact e1 18
    | succ k ih => unfold sn2; rw [ih, sm_pupil h, sm_excuse h hn1 hn]
  have e3 : ∀ k : Nat, sn3 z n k = sn3 w n k := fun k => by
    induction k with
    | zero => exact e2 80
    | succ k ih => unfold sn3; rw [ih, sm_excuse h hn1 hn, sm_novelty h hn1 hn]
  exact e3 60
end
section
/-! ===== p25: what holds of every school's table: IV z n K (n excuses, K offers and terms at most) ===== -/
def ns (f : Nat → Nat) : Nat → Nat | 0 => 0 | n + 1 => ns f n + f n
section NS
variable {f g : Nat → Nat} {n j : Nat}
theorem ns_congr : ∀ {n : Nat}, (∀ j : Nat, j < n → f j = g j) → ns f n = ns g n
  | 0, _ => rfl
  | n + 1, h => by
    show ns f n + f n = ns g n + g n
    rw [ns_congr (fun j hj => h j (by omega)), h n (by omega)]
theorem ns_le : ∀ {n : Nat}, j < n → f j ≤ ns f n
  | 0, h => absurd h (Nat.not_lt_zero j)
  | n + 1, h => by
    show f j ≤ ns f n + f n
    rcases Nat.lt_or_ge j n with c | c
    · have := ns_le c; omega
    · have e : j = n := by omega
      subst e; omega
theorem ns_mono : ∀ {n : Nat}, (∀ j : Nat, j < n → f j ≤ g j) → ns f n ≤ ns g n
  | 0, _ => Nat.le_refl _
  | n + 1, h => by
    show ns f n + f n ≤ ns g n + g n
    have h1 : ns f n ≤ ns g n := ns_mono (fun j hj => h j (by omega))
    have h2 := h n (by omega)
    omega
theorem ns_out (v : Nat) : ∀ {n : Nat}, n ≤ j → ns (va_up f j v) n = ns f n := fun h => ns_congr (fun i hi => va_up_ne _ _ (by omega))
theorem ns_up (c : Nat) : ∀ {n : Nat}, j < n → ns (va_up f j (f j + c)) n = ns f n + c
  | 0, h => absurd h (Nat.not_lt_zero j)
  | n + 1, h => by
    show ns (va_up f j (f j + c)) n + va_up f j (f j + c) n = ns f n + f n + c
    rcases Nat.lt_or_ge j n with q | q
    · rw [ns_up c q, va_up_ne _ _ (by omega)]; omega
    · have e : j = n := by omega
      subst e
      rw [ns_out _ (Nat.le_refl _), va_up_e]; omega
theorem ns_z : ∀ {n : Nat}, (∀ j : Nat, j < n → f j = 0) → ns f n = 0
  | 0, _ => rfl
  | n + 1, h => by
    show ns f n + f n = 0
    rw [ns_z (fun j hj => h j (by omega)), h n (by omega)]
theorem ns_0 (h : ns f n = 0) (hj : j < n) : f j = 0 := by have := ns_le (f := f) hj; omega
theorem ns_add : ∀ {n : Nat}, ns (fun j => f j + g j) n = ns f n + ns g n
  | 0 => rfl
  | n + 1 => by
    show ns (fun j => f j + g j) n + (f n + g n) = ns f n + f n + (ns g n + g n)
    rw [ns_add]; omega
theorem ns_rng (a : Nat) : ∀ {b : Nat}, ns f (a + b) = ns f a + ns (fun j => f (a + j)) b
  | 0 => rfl
  | b + 1 => by
    show ns f (a + b) + f (a + b) = ns f a + (ns (fun j => f (a + j)) b + f (a + b))
    rw [ns_rng a]; omega
theorem ns_rows : ∀ m : Nat, ns f (m * 12) = ns (fun p => ns (fun e => f (p * 12 + e)) 12) m
  | 0 => rfl
  | m + 1 => by
    show ns f ((m + 1) * 12) = ns (fun p => ns (fun e => f (p * 12 + e)) 12) m + ns (fun e => f (m * 12 + e)) 12
    rw [show (m + 1) * 12 = m * 12 + 12 by omega, ns_rng, ns_rows m]
theorem ns_swap (F : Nat → Nat → Nat) (m : Nat) : ∀ n : Nat, ns (fun i => ns (fun j => F i j) m) n = ns (fun j => ns (fun i => F i j) n) m
  | 0 => (ns_z (fun _ _ => rfl)).symm
  | n + 1 => by
    show ns (fun i => ns (fun j => F i j) m) n + ns (fun j => F n j) m = ns (fun j => ns (fun i => F i j) n + F n j) m
    rw [ns_swap F m n, ns_add]
theorem ns_cut {m : Nat} (h : n ≤ m) (hz : ∀ j : Nat, n ≤ j → j < m → f j = 0) : ns f m = ns f n := by
  obtain ⟨b, rfl⟩ : ∃ b, m = n + b := ⟨m - n, by omega⟩
  rw [ns_rng, ns_z (fun j hj => hz (n + j) (by omega) (by omega)), Nat.add_zero]
theorem bx_ns {g : Nat → Int32} : ∀ {n : Nat}, (∀ j : Nat, j < n → g j = nI (f j)) → bx_sum g n = nI (ns f n)
  | 0, _ => rfl
  | n + 1, h => by
    show bx_sum g n + g n = nI (ns f n + f n)
    rw [bx_ns (fun j hj => h j (by omega)), h n (by omega), nI_add]
theorem bx_out {g : Nat → Int32} (v : Int32) : ∀ {n : Nat}, n ≤ j → bx_sum (va_up g j v) n = bx_sum g n := fun h => bx_congr (fun i hi => va_up_ne _ _ (by omega))
theorem bx_up {g : Nat → Int32} (c : Int32) : ∀ {n : Nat}, j < n → bx_sum (va_up g j (g j + c)) n = bx_sum g n + c
  | 0, h => absurd h (Nat.not_lt_zero j)
  | n + 1, h => by
    show bx_sum (va_up g j (g j + c)) n + va_up g j (g j + c) n = bx_sum g n + g n + c
    rcases Nat.lt_or_ge j n with q | q
    · rw [bx_up c q, va_up_ne _ _ (by omega), Int32.add_assoc, Int32.add_comm c, Int32.add_assoc]
    · have e : j = n := by omega
      subst e
      rw [bx_out _ (Nat.le_refl _), va_up_e, Int32.add_assoc]
end NS
def iS (a : Nat → Int32) : Prop := ∀ j : Nat, j < 5 → ¬ bW (a j) (pv_t1 j) (pv_t2 j) = 0
def iE (n : Nat) (kd wh : Nat → Int32) : Prop := ∀ e : Nat, e < n → (∃ k : Nat, k < 5 ∧ kd e = nI k) ∧ ∃ v : Nat, 1 ≤ v ∧ v ≤ 99 ∧ wh e = nI v
def iU (n K : Nat) (u a s lt : Nat → Int32) : Prop := ∃ U A S : Nat → Nat,
  (∀ j : Nat, j < 120 → u j = nI (U j)) ∧ (∀ e : Nat, e < 12 → a e = nI (A e)) ∧ (∀ p : Nat, p < 10 → s p = nI (S p)) ∧
  (∀ e : Nat, n ≤ e → e < 12 → A e = 0 ∧ ∀ p : Nat, p < 10 → U (p * 12 + e) = 0) ∧
  (∀ e : Nat, e < 12 → ns (fun p => U (p * 12 + e)) 10 ≤ A e) ∧
  (∀ p : Nat, p < 10 → ns (fun e => U (p * 12 + e)) 12 ≤ S p) ∧
  (∀ p : Nat, p < 10 → lt p = -6 → ns (fun e => U (p * 12 + e)) 12 = 0) ∧
  ns A 12 = ns S 10 ∧ ns S 10 ≤ K
def iL (lt : Nat → Int32) : Prop := ∀ p : Nat, p < 10 → lt p = -6 ∨ ∃ k : Nat, k < 5 ∧ lt p = nI k
def iF (K : Nat) (f pd r q : Nat → Int32) : Prop := ∃ F D R Q : Nat → Nat,
  (∀ p : Nat, p < 10 → f p = nI (F p) ∧ pd p = nI (D p) ∧ r p = nI (R p)) ∧ (∀ k : Nat, 1 ≤ k → k ≤ 4 → q k = nI (Q k)) ∧
  ns R 10 = Q 1 + Q 2 + Q 3 + Q 4 ∧ (∀ p : Nat, p < 10 → R p = 0 → F p + D p = 0) ∧ (∀ p : Nat, p < 10 → F p + D p ≤ 5940 * K) ∧ ns R 10 ≤ K
def iC (c : Nat → Int32) : Prop := ∀ p : Nat, p < 10 → ∃ v : Nat, v ≤ 9 ∧ c p = nI v
def iG (g : Nat → Int32) : Prop := ∀ m : Nat, m < 5 → ∃ v : Nat, v ≤ 9 ∧ g m = nI v
def iT (K : Nat) (t : Nat → Int32) : Prop := ∃ v : Nat, v ≤ K ∧ t 0 = nI v
def IV (z : Nat → Nat → Int32) (n K : Nat) : Prop := (z 1 0 = nI n ∧ n ≤ 12) ∧ iS (z 0) ∧ iE n (z 2) (z 3) ∧ iU n K (z 5) (z 4) (z 9) (z 11) ∧ iL (z 11) ∧ iF K (z 7) (z 8) (z 10) (z 13) ∧ iC (z 6) ∧ iG (z 12) ∧ iT K (z 14)
section IVS
variable {z w : Nat → Nat → Int32} {n K K2 : Nat}
theorem IV.nn (h : IV z n K) : z 1 0 = nI n := h.1.1
theorem IV.n12 (h : IV z n K) : n ≤ 12 := h.1.2
theorem IV.mono (h : IV z n K) (hK : K ≤ K2) : IV z n K2 := by
  obtain ⟨h1, h2, h3, ⟨U, A, S, u1, u2, u3, u4, u5, u6, u7, u8, u9⟩, h5, ⟨F, D, R, Q, f1, f2, f3, f4, f5, f6⟩, h7, h8, ⟨v, t1, t2⟩⟩ := h
  exact ⟨h1, h2, h3, ⟨U, A, S, u1, u2, u3, u4, u5, u6, u7, u8, Nat.le_trans u9 hK⟩, h5, ⟨F, D, R, Q, f1, f2, f3, f4, fun p hp => Nat.le_trans (f5 p hp) (Nat.mul_le_mul_left _ hK), Nat.le_trans f6 hK⟩, h7, h8, ⟨v, Nat.le_trans t1 hK, t2⟩⟩
theorem IV.sm (h : IV z n K) (e : sm z w) : IV w n K := by
  obtain ⟨⟨h1, h1b⟩, h2, h3, ⟨U, A, S, u1, u2, u3, u4, u5, u6, u7, u8, u9⟩, h5, ⟨F, D, R, Q, f1, f2, f3, f4, f5, f6⟩, h7, h8, ⟨v, t1, t2⟩⟩ := h
  refine ⟨⟨(e 1 0 rfl) ▸ h1, h1b⟩, fun j hj => by rw [← e 0 j hj]; exact h2 j hj, fun x hx => ?_, ⟨U, A, S, fun j hj => by rw [← e 5 j hj]; exact u1 j hj, fun j hj => by rw [← e 4 j hj]; exact u2 j hj, fun j hj => by rw [← e 9 j hj]; exact u3 j hj, u4, u5, u6, fun p hp q => u7 p hp (by rw [e 11 p hp]; exact q), u8, u9⟩, fun p hp => by rw [← e 11 p hp]; exact h5 p hp, ⟨F, D, R, Q, fun p hp => by rw [← e 7 p hp, ← e 8 p hp, ← e 10 p hp]; exact f1 p hp, fun k k1 k4 => by rw [← e 13 k ⟨k1, k4⟩]; exact f2 k k1 k4, f3, f4, f5, f6⟩, fun p hp => by rw [← e 6 p hp]; exact h7 p hp, fun m hm => by rw [← e 12 m hm]; exact h8 m hm, ⟨v, t1, by rw [← e 14 0 rfl]; exact t2⟩⟩
  rw [← e 2 x (show x < 12 by omega), ← e 3 x (show x < 12 by omega)]
  exact h3 x hx
end IVS
end
section
/-! ===== p25: IV is kept by each change ===== -/
theorem sT1_at (z : Nat → Nat → Int32) : ∀ k l j : Nat, sT1 z k l j = if l = 5 ∧ j < k then 0 else z l j
  | 0, l, j => by rw [if_neg (by omega)]; rfl
  | k + 1, l, j => by
    show zu (sT1 z k) 5 k 0 l j = _
    by_cases c : l = 5
    · subst c
      by_cases d : j = k
      · subst d; rw [zu_ee, if_pos ⟨rfl, by omega⟩]
      · rw [zu_en d, sT1_at z k 5 j]
        by_cases e : j < k
        · rw [if_pos ⟨rfl, e⟩, if_pos ⟨rfl, by omega⟩]
        · rw [if_neg (fun q => e q.2), if_neg (fun q => by omega)]
    · rw [zu_o c, sT1_at z k l j, if_neg (fun q => c q.1), if_neg (fun q => c q.1)]
theorem sT2_at (z : Nat → Nat → Int32) : ∀ k l j : Nat, sT2 z k l j = if l = 11 ∧ j < k then -6 else if l = 6 ∧ j < k then sMin9 (z 6 j + 2) else z l j
  | 0, l, j => by rw [if_neg (by omega), if_neg (by omega)]; rfl
  | k + 1, l, j => by
    show zu (zu (sT2 z k) 11 k (-6)) 6 k (sMin9 (sT2 z k 6 k + 2)) l j = _
    by_cases c : l = 6
    · subst c
      rw [if_neg (by omega)]
      by_cases d : j = k
      · subst d; rw [zu_ee, sT2_at z j 6 j, if_neg (by omega), if_neg (by omega), if_pos ⟨rfl, by omega⟩]
      · rw [zu_en d, zu_o (by decide), sT2_at z k 6 j, if_neg (by omega)]
        by_cases e : j < k
        · rw [if_pos ⟨rfl, e⟩, if_pos ⟨rfl, by omega⟩]
        · rw [if_neg (fun q => e q.2), if_neg (fun q => by omega)]
    · rw [zu_o c]
      by_cases c2 : l = 11
      · subst c2
        by_cases d : j = k
        · subst d; rw [zu_ee, if_pos ⟨rfl, by omega⟩]
        · rw [zu_en d, sT2_at z k 11 j]
          by_cases e : j < k
          · rw [if_pos ⟨rfl, e⟩, if_pos ⟨rfl, by omega⟩]
          · rw [if_neg (fun q => e q.2), if_neg (fun q => c q.1), if_neg (fun q => by omega), if_neg (fun q => c q.1)]
      · rw [zu_o c2, sT2_at z k l j, if_neg (fun q => c2 q.1), if_neg (fun q => c q.1), if_neg (fun q => c2 q.1), if_neg (fun q => c q.1)]
theorem sT3_at (z : Nat → Nat → Int32) : ∀ k l j : Nat, sT3 z k l j = if l = 12 ∧ j < k then z 12 j / 2 else z l j
  | 0, l, j => by rw [if_neg (by omega)]; rfl
  | k + 1, l, j => by
    show zu (sT3 z k) 12 k (sT3 z k 12 k / 2) l j = _
    by_cases c : l = 12
    · subst c
      by_cases d : j = k
      · subst d; rw [zu_ee, sT3_at z j 12 j, if_neg (by omega), if_pos ⟨rfl, by omega⟩]
      · rw [zu_en d, sT3_at z k 12 j]
        by_cases e : j < k
        · rw [if_pos ⟨rfl, e⟩, if_pos ⟨rfl, by omega⟩]
        · rw [if_neg (fun q => e q.2), if_neg (fun q => by omega)]
    · rw [zu_o c, sT3_at z k l j, if_neg (fun q => c q.1), if_neg (fun q => c q.1)]
theorem sTerm_at (z : Nat → Nat → Int32) (l j : Nat) : sTerm0 z l j = if l = 12 ∧ j < 5 then z 12 j / 2 else if l = 11 ∧ j < 10 then -6 else if l = 6 ∧ j < 10 then sMin9 (z 6 j + 2) else if l = 5 ∧ j < 120 then 0 else z l j := by
  unfold sTerm0
  rw [sT3_at, sT2_at, sT2_at, sT1_at, sT1_at, sT1_at]
  by_cases c : l = 12
  · subst c
    simp
  · by_cases c6 : l = 6
    · subst c6; simp
    · simp [c, c6]
theorem nI_min9 {c : Nat} (hc : c < 2 ^ 30) : sMin9 (nI c) = nI (min 9 c) := by
  unfold sMin9
  by_cases q : c < 9
  · rw [if_pos (show nI c < 9 from nI_lt q (by decide)), Nat.min_eq_right (by omega)]
  · rw [if_neg (show ¬ nI c < 9 from nI_nlt (b := 9) (by omega) (by omega)), Nat.min_eq_left (by omega)]; rfl
theorem nI_max0 {a b : Nat} (ha : a < 2 ^ 30) (hb : b < 2 ^ 30) : sMax0 (nI a - nI b) = nI (a - b) := by
  unfold sMax0
  have e : (nI a - nI b).toInt = (a : Int) - b := pk_sub_toInt ha hb
  by_cases q : b < a
  · rw [if_pos (by rw [Int32.lt_iff_toInt_lt, e, show (0 : Int32).toInt = 0 from rfl]; omega), pk_sub (by omega)]
  · rw [if_neg (by rw [Int32.lt_iff_toInt_lt, e, show (0 : Int32).toInt = 0 from rfl]; omega), Nat.sub_eq_zero_of_le (by omega)]; rfl
section OPS
variable {z : Nat → Nat → Int32} {n K : Nat}
theorem IV_set (h : IV z n K) {j : Nat} {v : Int32} (hv : ¬ bW v (pv_t1 j) (pv_t2 j) = 0) : IV (zu z 0 j v) n K := by
  obtain ⟨h1, h2, h3, h4, h5, h6, h7, h8, h9⟩ := h
  refine ⟨h1, fun i hi => ?_, h3, h4, h5, h6, h7, h8, h9⟩
  rw [zu_e]
  by_cases e : i = j
  · subst e; rw [va_up_e]; exact hv
  · rw [va_up_ne _ _ e]; exact h2 i hi
theorem IV_add (h : IV z n K) (hn : n < 12) {k v : Nat} (hk : k < 5) (hv1 : 1 ≤ v) (hv : v ≤ 99) : IV (sAdd z n (nI k) (nI v)) (n + 1) K := by
  obtain ⟨h1, h2, h3, ⟨U, A, S, u1, u2, u3, u4, u5, u6, u7, u8, u9⟩, h5, h6, h7, h8, h9⟩ := h
  refine ⟨⟨?_, by omega⟩, h2, fun e he => ?_, ⟨U, A, S, u1, u2, u3, fun e h1 h2 => u4 e (by omega) h2, u5, u6, u7, u8, u9⟩, h5, h6, h7, h8, h9⟩
  · unfold sAdd; rw [zu_ee]
  · have e2 : sAdd z n (nI k) (nI v) 2 = va_up (z 2) n (nI k) := by unfold sAdd; rw [zu_o (by decide), zu_o (by decide), zu_e]
    have e3 : sAdd z n (nI k) (nI v) 3 = va_up (z 3) n (nI v) := by unfold sAdd; rw [zu_o (by decide), zu_e, zu_o (by decide)]
    rw [e2, e3]
    by_cases q : e = n
    · subst q; rw [va_up_e, va_up_e]; exact ⟨⟨k, hk, rfl⟩, v, hv1, hv, rfl⟩
    · rw [va_up_ne _ _ q, va_up_ne _ _ q]; exact h3 e (by omega)
theorem IV_worth (h : IV z n K) {e v : Nat} (hv1 : 1 ≤ v) (hv : v ≤ 99) : IV (zu z 3 e (nI v)) n K := by
  obtain ⟨h1, h2, h3, h4, h5, h6, h7, h8, h9⟩ := h
  refine ⟨h1, h2, fun i hi => ?_, h4, h5, h6, h7, h8, h9⟩
  rw [zu_e, zu_o (by decide)]
  by_cases q : i = e
  · subst q; rw [va_up_e]; exact ⟨(h3 i hi).1, v, hv1, hv, rfl⟩
  · rw [va_up_ne _ _ q]; exact h3 i hi
theorem IV_pay (h : IV z n K) (hK : K ≤ 1000) {p c : Nat} (hp : p < 10) (hc : c < 2 ^ 30) (hle : nI c ≤ z 7 p) : IV (sPay z p (nI c)) n K := by
  obtain ⟨h1, h2, h3, h4, h5, ⟨F, D, R, Q, f1, f2, f3, f4, f5, f6⟩, h7, h8, h9⟩ := h
  have b := f5 p hp
  have hF : F p < 2 ^ 30 := by omega
  have hcF : c ≤ F p := by rw [(f1 p hp).1] at hle; exact (nI_leI (by omega) (by omega)).mp hle
  have e7 : sPay z p (nI c) 7 = va_up (z 7) p (z 7 p - nI c) := by unfold sPay; rw [zu_o (by decide), zu_e]
  have e8 : sPay z p (nI c) 8 = va_up (z 8) p (z 8 p + nI c) := by unfold sPay; rw [zu_e, zu_o (by decide)]
  have es : ∀ q : Nat, va_up F p (F p - c) q + va_up D p (D p + c) q = F q + D q := fun q => by
    by_cases e : q = p
    · subst e; rw [va_up_e, va_up_e]; omega
    · rw [va_up_ne _ _ e, va_up_ne _ _ e]
  refine ⟨h1, h2, h3, h4, h5, ⟨va_up F p (F p - c), va_up D p (D p + c), R, Q, fun q hq => ?_, f2, f3, fun q hq hr => by rw [es]; exact f4 q hq hr, fun q hq => by rw [es]; exact f5 q hq, f6⟩, h7, h8, h9⟩
  rw [e7, e8]
  by_cases e : q = p
  · subst e
    rw [va_up_e, va_up_e, va_up_e, va_up_e, (f1 q hq).1, (f1 q hq).2.1, pk_sub hcF, nI_add]
    exact ⟨rfl, rfl, (f1 q hq).2.2⟩
  · rw [va_up_ne _ _ e, va_up_ne _ _ e, va_up_ne _ _ e, va_up_ne _ _ e]; exact f1 q hq
theorem sTermT_at (z : Nat → Nat → Int32) {l : Nat} (h : l ≠ 14) (j : Nat) : sTerm z l j = if l = 12 ∧ j < 5 then z 12 j / 2 else if l = 11 ∧ j < 10 then -6 else if l = 6 ∧ j < 10 then sMin9 (z 6 j + 2) else if l = 5 ∧ j < 120 then 0 else z l j := by
  unfold sTerm
  rw [zu_o h]; exact sTerm_at z l j
theorem sTerm_o (z : Nat → Nat → Int32) {l : Nat} (h : l ≠ 14 ∧ l ≠ 12 ∧ l ≠ 11 ∧ l ≠ 6 ∧ l ≠ 5) (j : Nat) : sTerm z l j = z l j := by
  rw [sTermT_at z h.1, if_neg (fun q => h.2.1 q.1), if_neg (fun q => h.2.2.1 q.1), if_neg (fun q => h.2.2.2.1 q.1), if_neg (fun q => h.2.2.2.2 q.1)]
theorem sTerm_5 (z : Nat → Nat → Int32) {j : Nat} (h : j < 120) : sTerm z 5 j = 0 := by
  rw [sTermT_at z (by decide), if_neg (fun q => absurd q.1 (by decide)), if_neg (fun q => absurd q.1 (by decide)), if_neg (fun q => absurd q.1 (by decide)), if_pos ⟨rfl, h⟩]
theorem sTerm_6 (z : Nat → Nat → Int32) {j : Nat} (h : j < 10) : sTerm z 6 j = sMin9 (z 6 j + 2) := by
  rw [sTermT_at z (by decide), if_neg (fun q => absurd q.1 (by decide)), if_neg (fun q => absurd q.1 (by decide)), if_pos ⟨rfl, h⟩]
theorem sTerm_11 (z : Nat → Nat → Int32) {j : Nat} (h : j < 10) : sTerm z 11 j = -6 := by
  rw [sTermT_at z (by decide), if_neg (fun q => absurd q.1 (by decide)), if_pos ⟨rfl, h⟩]
theorem sTerm_12 (z : Nat → Nat → Int32) {j : Nat} (h : j < 5) : sTerm z 12 j = z 12 j / 2 := by
  rw [sTermT_at z (by decide), if_pos ⟨rfl, h⟩]
theorem sTerm_14 (z : Nat → Nat → Int32) : sTerm z 14 0 = z 14 0 + 1 := by
  unfold sTerm
  rw [zu_ee, sTerm_at, if_neg (fun q => absurd q.1 (by decide)), if_neg (fun q => absurd q.1 (by decide)), if_neg (fun q => absurd q.1 (by decide)), if_neg (fun q => absurd q.1 (by decide))]
theorem IV_term (h : IV z n K) : IV (sTerm z) n (K + 1) := by
  obtain ⟨⟨h1, h1b⟩, h2, h3, ⟨U, A, S, u1, u2, u3, u4, u5, u6, u7, u8, u9⟩, h5, ⟨F, D, R, Q, f1, f2, f3, f4, f5, f6⟩, h7, h8, ⟨v, t1, t2⟩⟩ := h
  have o : ∀ l : Nat, (l ≠ 14 ∧ l ≠ 12 ∧ l ≠ 11 ∧ l ≠ 6 ∧ l ≠ 5) → sTerm z l = z l := fun l hl => funext (fun j => sTerm_o z hl j)
  refine ⟨⟨by rw [o 1 (by decide)]; exact h1, h1b⟩, by rw [o 0 (by decide)]; exact h2, by rw [o 2 (by decide), o 3 (by decide)]; exact h3, ⟨fun _ => 0, A, S, fun j hj => sTerm_5 z hj, by rw [o 4 (by decide)]; exact u2, by rw [o 9 (by decide)]; exact u3, fun e a b => ⟨(u4 e a b).1, fun _ _ => rfl⟩, fun e he => ?_, fun p hp => ?_, fun p hp _ => ns_z (fun _ _ => rfl), u8, by omega⟩, fun p hp => Or.inl (sTerm_11 z hp), ?_, fun p hp => ?_, fun m hm => ?_, ⟨v + 1, by omega, by rw [sTerm_14, t2]; exact nI_1 v⟩⟩
  · rw [ns_z (fun _ _ => rfl)]; omega
  · rw [ns_z (fun _ _ => rfl)]; omega
  · rw [o 7 (by decide), o 8 (by decide), o 10 (by decide), o 13 (by decide)]
    exact ⟨F, D, R, Q, f1, f2, f3, f4, fun p hp => Nat.le_trans (f5 p hp) (by omega), by omega⟩
  · obtain ⟨c, hc, e⟩ := h7 p hp
    rw [sTerm_6 z hp, e]
    exact ⟨min 9 (c + 2), Nat.min_le_left _ _, by rw [← nI_min9 (by omega), ← nI_add]; rfl⟩
  · obtain ⟨c, hc, e⟩ := h8 m hm
    rw [sTerm_12 z hm, e]
    exact ⟨c / 2, by omega, pk_div (d := 2) (by omega) (by decide) (by decide)⟩
/-! an offer -/
theorem sTake_o {wt c : Int32} {k : Nat} (h : k ≠ 6) : sTake z wt c k = z k := by
  unfold sTake
  by_cases q : wt = -6
  · rw [if_pos q]
  · rw [if_neg q, zu_o h]
theorem sTake_6 (h : iC (z 6)) {wt : Int32} {c : Nat} (hc : c < 2 ^ 30) : iC (sTake z wt (nI c) 6) := by
  unfold sTake
  by_cases q : wt = -6
  · rw [if_pos q]; exact h
  · rw [if_neg q, zu_e]
    intro p hp
    by_cases e : p = cl wt
    · subst e
      obtain ⟨v, hv, e2⟩ := h (cl wt) hp
      rw [va_up_e, e2]
      exact ⟨v - c, by omega, nI_max0 (by omega) hc⟩
    · rw [va_up_ne _ _ e]; exact h p hp
theorem sAnger_o {p k : Nat} (h : k ≠ 12) : sAnger z p k = z k := by unfold sAnger; rw [zu_o h]
theorem sAnger_12 (h : iG (z 12)) {p : Nat} (hp : p < 10) : iG (sAnger z p 12) := by
  unfold sAnger
  rw [zu_e]
  intro m hm
  by_cases e : m = p / 2
  · subst e
    obtain ⟨v, hv, e2⟩ := h (p / 2) hm
    rw [va_up_e, e2, nI_1, nI_min9 (by omega)]
    exact ⟨_, Nat.min_le_left _ _, rfl⟩
  · rw [va_up_ne _ _ e]; exact h m hm
theorem sStamp_o {p e : Nat} {wt mn : Int32} {k : Nat} (h6 : k ≠ 6) (h12 : k ≠ 12) : sStamp z p e wt mn k = sStamp0 z p e k := by
  unfold sStamp
  split
  · rw [sTake_o h6]
  · rw [sAnger_o h12, sTake_o h6]
theorem sRefuse_o {p r : Nat} {wt mn : Int32} {k : Nat} (h6 : k ≠ 6) (h12 : k ≠ 12) : sRefuse z p wt mn r k = zu (zu (zu z 7 p (z 7 p + z 0 3 * mn)) 10 p (z 10 p + 1)) 13 r (z 13 r + 1) k := by
  unfold sRefuse
  split
  · rw [sTake_o h6]; unfold sRefuse0; rw [sAnger_o h12]
  · unfold sRefuse0; rw [sAnger_o h12]
theorem sStamp0_o {p e k : Nat} (h : k ≠ 5 ∧ k ≠ 4 ∧ k ≠ 9) : sStamp0 z p e k = z k := by unfold sStamp0; rw [zu_o h.2.2, zu_o h.2.1, zu_o h.1]
theorem sStamp0_5 {p e : Nat} : sStamp0 z p e 5 = va_up (z 5) (p * 12 + e) (z 5 (p * 12 + e) + 1) := by unfold sStamp0; rw [zu_o (by decide), zu_o (by decide), zu_e]
theorem sStamp0_4 {p e : Nat} : sStamp0 z p e 4 = va_up (z 4) e (z 4 e + 1) := by unfold sStamp0; rw [zu_o (by decide), zu_e, zu_o (by decide)]
theorem sStamp0_9 {p e : Nat} : sStamp0 z p e 9 = va_up (z 9) p (z 9 p + 1) := by unfold sStamp0; rw [zu_e, zu_o (by decide), zu_o (by decide)]
theorem sStamp_6 (h : iC (z 6)) {p e : Nat} {wt mn : Int32} : iC (sStamp z p e wt mn 6) := by
  have h0 : iC (sStamp0 z p e 6) := by rw [sStamp0_o (by decide)]; exact h
  unfold sStamp
  split
  · exact sTake_6 (c := 1) h0 (by decide)
  · rw [sAnger_o (by decide)]; exact sTake_6 (c := 1) h0 (by decide)
theorem sStamp_12 (h : iG (z 12)) {p e : Nat} (hp : p < 10) {wt mn : Int32} : iG (sStamp z p e wt mn 12) := by
  have h0 : iG (sTake (sStamp0 z p e) wt 1 12) := by rw [sTake_o (by decide), sStamp0_o (by decide)]; exact h
  unfold sStamp
  split
  · exact h0
  · exact sAnger_12 h0 hp
theorem sRefuse_6 (h : iC (z 6)) {p r : Nat} {wt mn : Int32} : iC (sRefuse z p wt mn r 6) := by
  have h0 : iC (sRefuse0 z p mn r 6) := by unfold sRefuse0; rw [sAnger_o (by decide), zu_o (by decide), zu_o (by decide), zu_o (by decide)]; exact h
  unfold sRefuse
  split
  · exact sTake_6 (c := 2) h0 (by decide)
  · exact h0
theorem sRefuse_12 (h : iG (z 12)) {p r : Nat} (hp : p < 10) {wt mn : Int32} : iG (sRefuse z p wt mn r 12) := by
  have h0 : iG (sRefuse0 z p mn r 12) := by unfold sRefuse0; exact sAnger_12 (by rw [zu_o (by decide), zu_o (by decide), zu_o (by decide)]; exact h) hp
  unfold sRefuse
  split
  · rw [sTake_o (by decide)]; exact h0
  · exact h0
theorem ns_col {U : Nat → Nat} {p e : Nat} (hp : p < 10) (he : e < 12) {d : Nat} (hd : d < 12) : ns (fun q => va_up U (p * 12 + e) (U (p * 12 + e) + 1) (q * 12 + d)) 10 = ns (fun q => U (q * 12 + d)) 10 + (if d = e then 1 else 0) := by
  obtain ⟨V, hV⟩ : ∃ V, V = fun q => va_up U (p * 12 + e) (U (p * 12 + e) + 1) (q * 12 + d) := ⟨_, rfl⟩
  obtain ⟨G, hG⟩ : ∃ G, G = fun q => U (q * 12 + d) := ⟨_, rfl⟩
  rw [← hV, ← hG]
  by_cases q : d = e
  · subst q
    have e1 : ∀ i : Nat, i < 10 → V i = va_up G p (G p + 1) i := fun i hi => by
      rw [hV, hG]
      by_cases r : i = p
      · subst r; rw [va_up_e]; exact va_up_e
      · rw [va_up_ne _ _ r]; exact va_up_ne _ _ (show i * 12 + d ≠ p * 12 + d by omega)
    rw [if_pos rfl, ns_congr (f := V) (g := va_up G p (G p + 1)) (n := 10) e1]
    exact ns_up (f := G) 1 hp
  · have e1 : ∀ i : Nat, i < 10 → V i = G i := fun i hi => by
      rw [hV, hG]
      exact va_up_ne _ _ (show i * 12 + d ≠ p * 12 + e by omega)
    rw [if_neg q, Nat.add_zero]
    exact ns_congr (f := V) (g := G) (n := 10) e1
theorem ns_row {U : Nat → Nat} {p e : Nat} (hp : p < 10) (he : e < 12) {d : Nat} (hd : d < 10) : ns (fun q => va_up U (p * 12 + e) (U (p * 12 + e) + 1) (d * 12 + q)) 12 = ns (fun q => U (d * 12 + q)) 12 + (if d = p then 1 else 0) := by
  obtain ⟨V, hV⟩ : ∃ V, V = fun q => va_up U (p * 12 + e) (U (p * 12 + e) + 1) (d * 12 + q) := ⟨_, rfl⟩
  obtain ⟨G, hG⟩ : ∃ G, G = fun q => U (d * 12 + q) := ⟨_, rfl⟩
  rw [← hV, ← hG]
  by_cases q : d = p
  · subst q
    have e1 : ∀ i : Nat, i < 12 → V i = va_up G e (G e + 1) i := fun i hi => by
      rw [hV, hG]
      by_cases r : i = e
      · subst r; rw [va_up_e]; exact va_up_e
      · rw [va_up_ne _ _ r]; exact va_up_ne _ _ (show d * 12 + i ≠ d * 12 + e by omega)
    rw [if_pos rfl, ns_congr (f := V) (g := va_up G e (G e + 1)) (n := 12) e1]
    exact ns_up (f := G) 1 he
  · have e1 : ∀ i : Nat, i < 12 → V i = G i := fun i hi => by
      rw [hV, hG]
      exact va_up_ne _ _ (show d * 12 + i ≠ p * 12 + e by omega)
    rw [if_neg q, Nat.add_zero]
    exact ns_congr (f := V) (g := G) (n := 12) e1
set_option maxHeartbeats 4000000 in
theorem iU_stamp {u a s lt : Nat → Int32} (h : iU n K u a s lt) {p e : Nat} (hp : p < 10) (he : e < n) (hn : n ≤ 12) {k : Nat} (hk : k < 5) : iU n (K + 1) (va_up u (p * 12 + e) (u (p * 12 + e) + 1)) (va_up a e (a e + 1)) (va_up s p (s p + 1)) (va_up lt p (nI k)) := by
  obtain ⟨U, A, S, u1, u2, u3, u4, u5, u6, u7, u8, u9⟩ := h
  have he12 : e < 12 := by omega
  have cE : ∀ d : Nat, d < 12 → ns (fun q => va_up U (p * 12 + e) (U (p * 12 + e) + 1) (q * 12 + d)) 10 = ns (fun q => U (q * 12 + d)) 10 + (if d = e then 1 else 0) := fun d hd => ns_col hp he12 hd
  have cP : ∀ d : Nat, d < 10 → ns (fun q => va_up U (p * 12 + e) (U (p * 12 + e) + 1) (d * 12 + q)) 12 = ns (fun q => U (d * 12 + q)) 12 + (if d = p then 1 else 0) := fun d hd => ns_row hp he12 hd
  refine ⟨va_up U (p * 12 + e) (U (p * 12 + e) + 1), va_up A e (A e + 1), va_up S p (S p + 1), fun j hj => ?_, fun j hj => ?_, fun j hj => ?_, fun d h1 h2 => ?_, fun d hd => ?_, fun d hd => ?_, fun d hd hm => ?_, ?_, ?_⟩
  · by_cases q : j = p * 12 + e
    · subst q; rw [va_up_e, va_up_e, u1 _ hj]; exact nI_1 _
    · rw [va_up_ne _ _ q, va_up_ne _ _ q]; exact u1 j hj
  · by_cases q : j = e
    · subst q; rw [va_up_e, va_up_e, u2 _ hj]; exact nI_1 _
    · rw [va_up_ne _ _ q, va_up_ne _ _ q]; exact u2 j hj
  · by_cases q : j = p
    · subst q; rw [va_up_e, va_up_e, u3 _ hj]; exact nI_1 _
    · rw [va_up_ne _ _ q, va_up_ne _ _ q]; exact u3 j hj
  · rw [va_up_ne _ _ (by omega)]
    exact ⟨(u4 d h1 h2).1, fun q hq => by rw [va_up_ne _ _ (by omega)]; exact (u4 d h1 h2).2 q hq⟩
  · rw [cE d hd]
    have := u5 d hd
    by_cases q : d = e
    · subst q; rw [va_up_e, if_pos rfl]; omega
    · rw [va_up_ne _ _ q, if_neg q]; omega
  · rw [cP d hd]
    have := u6 d hd
    by_cases q : d = p
    · subst q; rw [va_up_e, if_pos rfl]; omega
    · rw [va_up_ne _ _ q, if_neg q]; omega
  · by_cases q : d = p
    · subst q; rw [va_up_e] at hm
      exact absurd (hm ▸ nI_pos (n := k) (by omega)) (by decide)
    · rw [cP d hd, if_neg q, Nat.add_zero]
      rw [va_up_ne _ _ q] at hm
      exact u7 d hd hm
  · rw [ns_up 1 he12, ns_up 1 hp, u8]
  · rw [ns_up 1 hp]; omega
theorem iU_lt {u a s lt : Nat → Int32} (h : iU n K u a s lt) {p k : Nat} (hk : k < 5) : iU n (K + 1) u a s (va_up lt p (nI k)) := by
  obtain ⟨U, A, S, u1, u2, u3, u4, u5, u6, u7, u8, u9⟩ := h
  refine ⟨U, A, S, u1, u2, u3, u4, u5, u6, fun d hd hm => ?_, u8, by omega⟩
  by_cases q : d = p
  · subst q; rw [va_up_e] at hm
    exact absurd (hm ▸ nI_pos (n := k) (by omega)) (by decide)
  · rw [va_up_ne _ _ q] at hm
    exact u7 d hd hm
theorem iF_refuse {f pd rr q : Nat → Int32} (h : iF K f pd rr q) {p r c : Nat} (hp : p < 10) (hr1 : 1 ≤ r) (hr : r ≤ 4) (hc : c ≤ 5940) : iF (K + 1) (va_up f p (f p + nI c)) pd (va_up rr p (rr p + 1)) (va_up q r (q r + 1)) := by
  obtain ⟨F, D, R, Q, f1, f2, f3, f4, f5, f6⟩ := h
  refine ⟨va_up F p (F p + c), D, va_up R p (R p + 1), va_up Q r (Q r + 1), fun j hj => ?_, fun k h1 h4 => ?_, ?_, fun j hj hR => ?_, fun j hj => ?_, by rw [ns_up 1 hp]; omega⟩
  · by_cases e : j = p
    · subst e; rw [va_up_e, va_up_e, va_up_e, va_up_e, (f1 j hj).1, (f1 j hj).2.2, nI_add]
      exact ⟨rfl, (f1 j hj).2.1, nI_1 _⟩
    · rw [va_up_ne _ _ e, va_up_ne _ _ e, va_up_ne _ _ e, va_up_ne _ _ e]; exact f1 j hj
  · by_cases e : k = r
    · subst e; rw [va_up_e, va_up_e, f2 k h1 h4]; exact nI_1 _
    · rw [va_up_ne _ _ e, va_up_ne _ _ e]; exact f2 k h1 h4
  · rw [ns_up 1 hp, f3]
    rcases (show r = 1 ∨ r = 2 ∨ r = 3 ∨ r = 4 by omega) with rfl | rfl | rfl | rfl <;> simp [va_up] <;> omega
  · by_cases e : j = p
    · subst e; rw [va_up_e] at hR; omega
    · rw [va_up_ne _ _ e] at hR; rw [va_up_ne _ _ e]; exact f4 j hj hR
  · have := f5 j hj
    by_cases e : j = p
    · subst e; rw [va_up_e]; omega
    · rw [va_up_ne _ _ e]; omega
theorem iS_3 {a : Nat → Int32} (h : iS a) : ∃ c : Nat, 1 ≤ c ∧ c ≤ 60 ∧ a 3 = nI c := by
  obtain ⟨d, hd, e, -⟩ := bW_off (c := a 3) (a := 1) (b := 60) rfl rfl (by decide) (by decide) (h 3 (by decide))
  exact ⟨1 + d, by omega, by omega, e⟩
theorem iL_up {lt : Nat → Int32} (h : iL lt) {p k : Nat} (hk : k < 5) : iL (va_up lt p (nI k)) := fun q hq => by
  by_cases e : q = p
  · subst e; rw [va_up_e]; exact Or.inr ⟨k, hk, rfl⟩
  · rw [va_up_ne _ _ e]; exact h q hq
theorem sOffer0_2 {p e : Nat} {wt mn : Int32} (z : Nat → Nat → Int32) {k : Nat} (hk : k = 0 ∨ k = 1 ∨ k = 2 ∨ k = 3 ∨ k = 14 ∨ k = 11 ∨ k = 8) : sOffer0 z p e wt mn k = z k := by
  unfold sOffer0
  split
  · rw [sStamp_o (by omega) (by omega), sStamp0_o (by omega)]
  · rw [sRefuse_o (by omega) (by omega), zu_o (by omega), zu_o (by omega), zu_o (by omega)]
theorem sOffer_o {p e : Nat} {wt mn : Int32} (z : Nat → Nat → Int32) {k : Nat} (hk : k ≠ 11) : sOffer z p e wt mn k = sOffer0 z p e wt mn k := by unfold sOffer; rw [zu_o hk]
theorem sOffer_11 {p e : Nat} {wt mn : Int32} (z : Nat → Nat → Int32) : sOffer z p e wt mn 11 = va_up (z 11) p (z 2 e) := by
  unfold sOffer
  rw [zu_e, sOffer0_2 z (by decide), sOffer0_2 z (by decide)]
theorem IV_offer (h : IV z n K) {p e m : Nat} (hp : p < 10) (he : e < n) (wt : Int32) (hm : m ≤ 99) : IV (sOffer z p e wt (nI m)) n (K + 1) := by
  have hmono := h.mono (Nat.le_succ K)
  obtain ⟨⟨h1, h1b⟩, h2, h3, h4, h5, h6, h7, h8, h9⟩ := h
  obtain ⟨⟨k, hk, hk2⟩, -⟩ := h3 e he
  have s1 : sOffer z p e wt (nI m) 1 = z 1 := by rw [sOffer_o z (by decide), sOffer0_2 z (by decide)]
  have s0 : sOffer z p e wt (nI m) 0 = z 0 := by rw [sOffer_o z (by decide), sOffer0_2 z (by decide)]
  have s2 : sOffer z p e wt (nI m) 2 = z 2 := by rw [sOffer_o z (by decide), sOffer0_2 z (by decide)]
  have s3 : sOffer z p e wt (nI m) 3 = z 3 := by rw [sOffer_o z (by decide), sOffer0_2 z (by decide)]
  have s14 : sOffer z p e wt (nI m) 14 = z 14 := by rw [sOffer_o z (by decide), sOffer0_2 z (by decide)]
  have s11 : sOffer z p e wt (nI m) 11 = va_up (z 11) p (nI k) := by rw [sOffer_11, hk2]
  refine ⟨⟨by rw [s1]; exact h1, h1b⟩, by rw [s0]; exact h2, by rw [s2, s3]; exact h3, ?_, by rw [s11]; exact iL_up h5 hk, ?_, ?_, ?_, by rw [s14]; exact hmono.2.2.2.2.2.2.2.2⟩
  · rw [s11, sOffer_o z (by decide), sOffer_o z (by decide), sOffer_o z (by decide)]
    unfold sOffer0
    split
    · rw [sStamp_o (by decide) (by decide), sStamp_o (by decide) (by decide), sStamp_o (by decide) (by decide), sStamp0_5, sStamp0_4, sStamp0_9]
      exact iU_stamp h4 hp he h1b hk
    · rw [sRefuse_o (by decide) (by decide), sRefuse_o (by decide) (by decide), sRefuse_o (by decide) (by decide), zu_o (by decide), zu_o (by decide), zu_o (by decide), zu_o (by decide), zu_o (by decide), zu_o (by decide), zu_o (by decide), zu_o (by decide), zu_o (by decide)]
      exact iU_lt h4 hk
  · rw [sOffer_o z (by decide), sOffer_o z (by decide), sOffer_o z (by decide), sOffer_o z (by decide)]
    unfold sOffer0
    split
    · rw [sStamp_o (by decide) (by decide), sStamp_o (by decide) (by decide), sStamp_o (by decide) (by decide), sStamp_o (by decide) (by decide), sStamp0_o (by decide), sStamp0_o (by decide), sStamp0_o (by decide), sStamp0_o (by decide)]
      exact hmono.2.2.2.2.2.1
    · rename_i hr
      obtain ⟨r, r1, r4, hrr⟩ := sReason_nat z p e wt (nI m) hr
      obtain ⟨c, c1, c60, hc⟩ := iS_3 h2
      rw [hrr, cl_nI (by omega), sRefuse_o (by decide) (by decide), sRefuse_o (by decide) (by decide), sRefuse_o (by decide) (by decide), sRefuse_o (by decide) (by decide)]
      rw [show zu (zu (zu z 7 p (z 7 p + z 0 3 * nI m)) 10 p (z 10 p + 1)) 13 r (z 13 r + 1) 7 = va_up (z 7) p (z 7 p + nI (c * m)) from by rw [zu_o (by decide), zu_o (by decide), zu_e, hc, pk_mul], show zu (zu (zu z 7 p (z 7 p + z 0 3 * nI m)) 10 p (z 10 p + 1)) 13 r (z 13 r + 1) 8 = z 8 from by rw [zu_o (by decide), zu_o (by decide), zu_o (by decide)], show zu (zu (zu z 7 p (z 7 p + z 0 3 * nI m)) 10 p (z 10 p + 1)) 13 r (z 13 r + 1) 10 = va_up (z 10) p (z 10 p + 1) from by rw [zu_o (by decide), zu_e, zu_o (by decide)], show zu (zu (zu z 7 p (z 7 p + z 0 3 * nI m)) 10 p (z 10 p + 1)) 13 r (z 13 r + 1) 13 = va_up (z 13) r (z 13 r + 1) from by rw [zu_e, zu_o (by decide), zu_o (by decide)]]
      exact iF_refuse h6 hp r1 r4 (Nat.le_trans (Nat.mul_le_mul c60 hm) (by decide))
  · rw [sOffer_o z (by decide)]
    unfold sOffer0
    split
    · exact sStamp_6 h7
    · exact sRefuse_6 h7
  · rw [sOffer_o z (by decide)]
    unfold sOffer0
    split
    · exact sStamp_12 h8 hp
    · exact sRefuse_12 h8 hp
end OPS
end
section
/-! ===== p25: what the law asks of a school's table, from IV ===== -/
theorem nI_z {a : Nat} (h : a < 2 ^ 31) : nI a = 0 ↔ a = 0 := nI_eq (b := 0) h (by decide)
/-- the set of users, as a number -/
def mkN (g : Nat → Nat) : Nat → Nat | 0 => 0 | n + 1 => if 0 < g n then mkN g n + 2 ^ n else mkN g n
theorem mkN_lt (g : Nat → Nat) : ∀ n : Nat, mkN g n < 2 ^ n
  | 0 => by decide
  | n + 1 => by
    have h := mkN_lt g n
    have e : (2 : Nat) ^ (n + 1) = 2 ^ n * 2 := rfl
    show (if 0 < g n then mkN g n + 2 ^ n else mkN g n) < 2 ^ (n + 1)
    split <;> omega
theorem mkN_bit (g : Nat → Nat) {p : Nat} : ∀ {n : Nat}, p < n → mkN g n / 2 ^ p % 2 = if 0 < g p then 1 else 0
  | 0, h => absurd h (Nat.not_lt_zero p)
  | n + 1, h => by
    show (if 0 < g n then mkN g n + 2 ^ n else mkN g n) / 2 ^ p % 2 = _
    have hl := mkN_lt g n
    rcases Nat.lt_or_ge p n with q | q
    · have ih := mkN_bit g q
      obtain ⟨b, rfl⟩ : ∃ b, n = p + (b + 1) := ⟨n - p - 1, by omega⟩
      by_cases c : 0 < g (p + (b + 1))
      · rw [if_pos c, ← ih, Nat.pow_add, Nat.add_mul_div_left _ _ (Nat.two_pow_pos p), Nat.pow_succ]; omega
      · rw [if_neg c]; exact ih
    · have e : p = n := by omega
      subst e
      by_cases c : 0 < g p
      · rw [if_pos c, if_pos c, Nat.add_div_right _ (Nat.two_pow_pos p), Nat.div_eq_of_lt hl]
      · rw [if_neg c, if_neg c, Nat.div_eq_of_lt hl]
theorem mkN_0 (g : Nat → Nat) : ∀ n : Nat, mkN g n = 0 ↔ ns g n = 0
  | 0 => ⟨fun _ => rfl, fun _ => rfl⟩
  | n + 1 => by
    show (if 0 < g n then mkN g n + 2 ^ n else mkN g n) = 0 ↔ ns g n + g n = 0
    have ih := mkN_0 g n
    have := Nat.two_pow_pos n
    by_cases c : 0 < g n
    · rw [if_pos c]; omega
    · rw [if_neg c, ih]; omega
/-- how many bits -/
def pcN (v : Nat) : Nat := ns (fun i => v / 2 ^ i % 2) 10
theorem pcN_le (g : Nat → Nat) : pcN (mkN g 10) ≤ ns g 10 := by
  refine ns_mono (fun j hj => ?_)
  rw [mkN_bit g hj]
  split <;> omega
theorem or_bit : ∀ n : Nat, n < 10 → ∀ a : Nat, a < 2 ^ n → nI a ||| (1 <<< (nI n &&& 31)) = nI (a + 2 ^ n) := by decide +kernel
theorem sh_bit : ∀ p : Nat, p < 10 → ∀ v : Nat, v < 1024 → (nI v >>> (nI p &&& 31)) &&& 1 = nI (v / 2 ^ p % 2) := by decide +kernel
theorem pc_step : ∀ v : Nat, v < 1024 → v ≠ 0 → nI v &&& (nI v - 1) = nI (v &&& (v - 1)) ∧ (v &&& (v - 1)) < v ∧ pcN (v &&& (v - 1)) + 1 = pcN v := by decide +kernel
theorem sSet_mk {f : Nat → Int32} {g : Nat → Nat} (hg : ∀ p : Nat, p < 10 → g p < 2 ^ 30) : ∀ {n : Nat}, n ≤ 10 → (∀ p : Nat, p < n → f p = nI (g p)) → sSet f n = nI (mkN g n)
  | 0, _, _ => rfl
  | n + 1, hn, h => by
    show (if 0 < f n then sSet f n ||| (1 <<< (nI n &&& 31)) else sSet f n) = nI (if 0 < g n then mkN g n + 2 ^ n else mkN g n)
    rw [sSet_mk hg (by omega) (fun p hp => h p (by omega)), h n (by omega)]
    have b := hg n (by omega)
    by_cases c : 0 < g n
    · rw [if_pos (show (0 : Int32) < nI (g n) from nI_lt c (by omega)), if_pos c]
      exact or_bit n (by omega) _ (mkN_lt g n)
    · have e : g n = 0 := by omega
      rw [e, if_neg (show ¬ (0 : Int32) < nI 0 by decide), if_neg (by decide)]
section AP
variable {z : Nat → Nat → Int32} {n K p e : Nat}
theorem tPx (hp : p < 10) : ¬ bW (nI p) 0 9 = 0 := by rw [show (9 : Int32) = nI 9 from rfl, bW_of (by omega) (by decide)]; decide
theorem tP0 (hp : p < 10) : tPupil z (nI p) 0 = z 6 p := by unfold tPupil; rw [if_neg (tPx hp), if_pos rfl, cl_nI (by omega)]
theorem tP1 (hp : p < 10) : tPupil z (nI p) 1 = z 7 p := by unfold tPupil; rw [if_neg (tPx hp), if_neg (by decide), if_pos rfl, cl_nI (by omega)]
theorem tP2 (hp : p < 10) : tPupil z (nI p) 2 = z 9 p := by unfold tPupil; rw [if_neg (tPx hp), if_neg (by decide), if_neg (by decide), if_pos rfl, cl_nI (by omega)]
theorem tP3 (hp : p < 10) : tPupil z (nI p) 3 = z 10 p := by unfold tPupil; rw [if_neg (tPx hp), if_neg (by decide), if_neg (by decide), if_neg (by decide), if_pos rfl, cl_nI (by omega)]
theorem tP4 (hp : p < 10) : tPupil z (nI p) 4 = z 11 p := by unfold tPupil; rw [if_neg (tPx hp), if_neg (by decide), if_neg (by decide), if_neg (by decide), if_neg (by decide), if_pos rfl, cl_nI (by omega)]
theorem tP5 (hp : p < 10) : tPupil z (nI p) 5 = sUP z p := by unfold tPupil; rw [if_neg (tPx hp), if_neg (by decide), if_neg (by decide), if_neg (by decide), if_neg (by decide), if_neg (by decide), if_pos rfl, cl_nI (by omega)]
theorem tP6 {m : Nat} (hp : p < 10) (hm : p / 2 = m) : tPupil z (nI p) 6 = z 12 m := by subst hm; unfold tPupil; rw [if_neg (tPx hp), if_neg (by decide), if_neg (by decide), if_neg (by decide), if_neg (by decide), if_neg (by decide), if_neg (by decide), if_pos rfl, cl_nI (by omega)]
theorem tP7 (hp : p < 10) : tPupil z (nI p) 7 = z 8 p := by unfold tPupil; rw [if_neg (tPx hp), if_neg (by decide), if_neg (by decide), if_neg (by decide), if_neg (by decide), if_neg (by decide), if_neg (by decide), if_neg (by decide), if_pos rfl, cl_nI (by omega)]
theorem tEx (hn : z 1 0 = nI n) (hn12 : n ≤ 12) (he : e < n) : ¬ bH z (nI e) = 0 := by
  unfold bH
  rw [if_neg (nI_pos (by omega)), if_neg (by rw [hn]; exact fun q => absurd ((nI_leI (by omega) (by omega)).mp q) (by omega))]; decide
theorem tE0 (hn : z 1 0 = nI n) (hn12 : n ≤ 12) (he : e < n) : tExcuse z (nI e) 0 = z 2 e := by unfold tExcuse; rw [if_neg (tEx hn hn12 he), if_pos rfl, cl_nI (by omega)]
theorem tE1 (hn : z 1 0 = nI n) (hn12 : n ≤ 12) (he : e < n) : tExcuse z (nI e) 1 = z 3 e := by unfold tExcuse; rw [if_neg (tEx hn hn12 he), if_neg (by decide), if_pos rfl, cl_nI (by omega)]
theorem tE2 (hn : z 1 0 = nI n) (hn12 : n ≤ 12) (he : e < n) : tExcuse z (nI e) 2 = sUS z e := by unfold tExcuse; rw [if_neg (tEx hn hn12 he), if_neg (by decide), if_neg (by decide), if_pos rfl, cl_nI (by omega)]
theorem tE3 (hn : z 1 0 = nI n) (hn12 : n ≤ 12) (he : e < n) : tExcuse z (nI e) 3 = z 4 e := by unfold tExcuse; rw [if_neg (tEx hn hn12 he), if_neg (by decide), if_neg (by decide), if_neg (by decide), if_pos rfl, cl_nI (by omega)]
theorem tE4 (hn : z 1 0 = nI n) (hn12 : n ≤ 12) (he : e < n) : tExcuse z (nI e) 4 = sUsers z e := by unfold tExcuse; rw [if_neg (tEx hn hn12 he), if_neg (by decide), if_neg (by decide), if_neg (by decide), if_neg (by decide), if_pos rfl, cl_nI (by omega)]
theorem tNv (hn : z 1 0 = nI n) (hn12 : n ≤ 12) (hp : p < 10) (he : e < n) : tNovelty z (nI p) (nI e) = sNov z p e := by
  unfold tNovelty; rw [if_neg (tPx hp), if_neg (tEx hn hn12 he), cl_nI (by omega), cl_nI (by omega)]
theorem tC (pl kp : Int32) : tCount z n pl kp 0 = z 0 0 ∧ tCount z n pl kp 1 = z 0 1 ∧ tCount z n pl kp 2 = z 0 2 ∧ tCount z n pl kp 3 = z 0 3 ∧ tCount z n pl kp 4 = z 0 4 ∧ tCount z n pl kp 5 = z 1 0 ∧ tCount z n pl kp 6 = bx_sum (z 9) 10 ∧ tCount z n pl kp 7 = z 13 1 ∧ tCount z n pl kp 8 = z 13 2 ∧ tCount z n pl kp 9 = z 13 3 ∧ tCount z n pl kp 10 = z 13 4 ∧ tCount z n pl kp 11 = bx_sum (z 7) 10 ∧ tCount z n pl kp 12 = bx_sum (z 8) 10 ∧ tCount z n pl kp 13 = bx_sum (z 7) 10 + bx_sum (z 8) 10 ∧ tCount z n pl kp 14 = z 14 0 ∧ tCount z n pl kp 15 = bx_sum (z 6) 10 ∧ tCount z n pl kp 16 = bx_sum (z 12) 5 ∧ tCount z n pl kp 17 = sWOs z n ∧ tCount z n pl kp 18 = pl ∧ tCount z n pl kp 19 = kp :=
  ⟨rfl, rfl, rfl, rfl, rfl, rfl, rfl, rfl, rfl, rfl, rfl, rfl, rfl, rfl, rfl, rfl, rfl, rfl, rfl, rfl⟩
/-- a pupil -/
theorem ap_p (h : IV z n K) (hK : K ≤ 100) (hp : p < 10) : (¬ z 6 p < 0 ∧ ¬ 10 ≤ z 6 p ∧ ¬ z 7 p < 0 ∧ ¬ z 12 (p / 2) < 0 ∧ ¬ 10 ≤ z 12 (p / 2)) ∧ (z 11 p = -6 ∨ (¬ z 11 p < 0 ∧ ¬ 5 ≤ z 11 p)) ∧ ¬ z 9 p < sUP z p ∧ (z 11 p = -6 → sUP z p = 0) ∧ ¬ z 8 p < 0 ∧ (¬ 0 < z 10 p → z 7 p + z 8 p = 0) := by
  obtain ⟨h1, h2, h3, ⟨U, A, S, u1, u2, u3, u4, u5, u6, u7, u8, u9⟩, h5, ⟨F, D, R, Q, f1, f2, f3, f4, f5, f6⟩, h7, h8, h9⟩ := h
  obtain ⟨c, hc, c2⟩ := h7 p hp
  obtain ⟨g, hg, g2⟩ := h8 (p / 2) (by omega)
  have hs := ns_le (f := S) hp
  have hr := ns_le (f := R) hp
  have hf := f5 p hp
  have hu := u6 p hp
  have eU : sUP z p = nI (ns (fun e => U (p * 12 + e)) 12) := bx_ns (fun j hj => u1 _ (by omega))
  refine ⟨⟨?_, ?_, ?_, ?_, ?_⟩, ?_, ?_, ?_, ?_, ?_⟩
  · rw [c2]; exact nI_pos (by omega)
  · rw [c2]; exact fun q => absurd ((nI_leI (a := 10) (by decide) (by omega)).mp q) (by omega)
  · rw [(f1 p hp).1]; exact nI_pos (by omega)
  · rw [g2]; exact nI_pos (by omega)
  · rw [g2]; exact fun q => absurd ((nI_leI (a := 10) (by decide) (by omega)).mp q) (by omega)
  · rcases h5 p hp with q | ⟨k, hk, q⟩
    · exact Or.inl q
    · rw [q]; exact Or.inr ⟨nI_pos (by omega), fun q => absurd ((nI_leI (a := 5) (by decide) (by omega)).mp q) (by omega)⟩
  · rw [eU, u3 p hp]; exact nI_nlt hu (by omega)
  · intro q; rw [eU, u7 p hp q]; rfl
  · rw [(f1 p hp).2.1]; exact nI_pos (by omega)
  · intro q
    rw [(f1 p hp).2.2] at q
    have r0 : R p = 0 := by
      rcases Nat.eq_zero_or_pos (R p) with w | w
      · exact w
      · exact absurd (nI_lt (a := 0) w (by omega)) q
    rw [(f1 p hp).1, (f1 p hp).2.1, nI_add, f4 p hp r0]; rfl
theorem ap_uses (h : IV z n K) (hK : K ≤ 100) : ∃ U A : Nat → Nat, (∀ p e : Nat, p < 10 → e < 12 → sU z p e = nI (U (p * 12 + e)) ∧ U (p * 12 + e) ≤ K) ∧ (∀ e : Nat, e < 12 → sUS z e = nI (ns (fun p => U (p * 12 + e)) 10) ∧ ns (fun p => U (p * 12 + e)) 10 ≤ A e ∧ z 4 e = nI (A e) ∧ A e ≤ K) ∧ (∀ p : Nat, p < 10 → sUP z p = nI (ns (fun e => U (p * 12 + e)) 12) ∧ ns (fun e => U (p * 12 + e)) 12 ≤ K) ∧ (∀ e : Nat, n ≤ e → e < 12 → ∀ p : Nat, p < 10 → U (p * 12 + e) = 0) := by
  obtain ⟨h1, h2, h3, ⟨U, A, S, u1, u2, u3, u4, u5, u6, u7, u8, u9⟩, h5, h6, h7, h8, h9⟩ := h
  refine ⟨U, A, fun p e hp he => ⟨u1 _ (by omega), ?_⟩, fun e he => ⟨?_, u5 e he, u2 e he, ?_⟩, fun p hp => ⟨bx_ns (fun j hj => u1 _ (by omega)), ?_⟩, fun e q1 q2 => (u4 e q1 q2).2⟩
  · have a := ns_le (f := fun e => U (p * 12 + e)) he
    have b := u6 p hp
    have c := ns_le (f := S) hp
    have a : U (p * 12 + e) ≤ ns (fun e => U (p * 12 + e)) 12 := a
    omega
  · refine bx_ns (fun j hj => ?_)
    rw [u1 _ (by omega), show e + 12 * j = j * 12 + e by omega]
  · have a := ns_le (f := A) he
    omega
  · have b := u6 p hp
    have c := ns_le (f := S) hp
    omega
theorem iS_1 {a : Nat → Int32} (h : iS a) : ∃ c : Nat, c ≤ 50 ∧ a 1 = nI c := bW_nat (m := 50) rfl (by decide) (h 1 (by decide))
theorem ap_nov (h : IV z n K) (hK : K ≤ 100) (hp : p < 10) (he : e < 12) : ∃ v : Nat, v ≤ 100 ∧ sNov z p e = nI v ∧ (sUS z e = 0 → v = 100) := by
  obtain ⟨U, A, hU, hE, -, -⟩ := ap_uses h hK
  obtain ⟨w, hw, hw2⟩ := iS_1 h.2.1
  obtain ⟨e1, e2, -, e3⟩ := hE e he
  have a1 := (hU (2 * (p / 2)) e (by omega) he)
  have a2 := (hU (2 * (p / 2) + 1) e (by omega) he)
  have eC : sUC z (p / 2) e = nI (U (2 * (p / 2) * 12 + e) + U ((2 * (p / 2) + 1) * 12 + e)) := by
    unfold sUC
    rw [show 2 * (p / 2) * 12 + e + 12 = (2 * (p / 2) + 1) * 12 + e by omega]
    rw [show z 5 (2 * (p / 2) * 12 + e) = nI (U (2 * (p / 2) * 12 + e)) from a1.1, show z 5 ((2 * (p / 2) + 1) * 12 + e) = nI (U ((2 * (p / 2) + 1) * 12 + e)) from a2.1, nI_add]
  obtain ⟨t, ht⟩ : ∃ t, t = ns (fun p => U (p * 12 + e)) 10 + (U (2 * (p / 2) * 12 + e) + U ((2 * (p / 2) + 1) * 12 + e)) := ⟨_, rfl⟩
  have hb : w * t ≤ 50 * 300 := Nat.mul_le_mul hw (by omega)
  refine ⟨100 - w * t, by omega, ?_, fun q => ?_⟩
  · unfold sNov
    rw [hw2, e1, eC, nI_add, ← ht, pk_mul]
    exact nI_max0 (a := 100) (by decide) (by omega)
  · rw [e1, nI_z (by omega)] at q
    have b1 : U (2 * (p / 2) * 12 + e) = 0 := ns_0 (f := fun p => U (p * 12 + e)) q (show 2 * (p / 2) < 10 by omega)
    have b2 : U ((2 * (p / 2) + 1) * 12 + e) = 0 := ns_0 (f := fun p => U (p * 12 + e)) q (show 2 * (p / 2) + 1 < 10 by omega)
    have t0 : t = 0 := by omega
    rw [t0]; rfl
/-- a pupil and an excuse -/
theorem ap_q (h : IV z n K) (hK : K ≤ 100) (hp : p < 10) (he : e < 12) : ¬ sNov z p e < 0 ∧ ¬ 100 < sNov z p e ∧ (¬ 0 < sUS z e → sNov z p e = 100) ∧ (¬ (sUsers z e >>> (nI p &&& 31)) &&& 1 = 0 → ¬ sUP z p ≤ 0) := by
  obtain ⟨v, hv, e1, e2⟩ := ap_nov h hK hp he
  obtain ⟨U, A, hU, hE, hP, -⟩ := ap_uses h hK
  obtain ⟨g1, g2, -, g3⟩ := hE e he
  refine ⟨by rw [e1]; exact nI_pos (by omega), by rw [e1]; exact nI_nlt (a := 100) hv (by decide), fun q => ?_, fun q r => ?_⟩
  · rw [e1, e2 ?_]; rfl
    rw [g1] at q ⊢
    rw [nI_z (by omega)]
    rcases Nat.eq_zero_or_pos (ns (fun p => U (p * 12 + e)) 10) with w | w
    · exact w
    · exact absurd (nI_lt (a := 0) w (by omega)) q
  · obtain ⟨p1, p2⟩ := hP p hp
    rw [p1, show (0 : Int32) = nI 0 from rfl, nI_leI (by omega) (by decide)] at r
    have u0 : U (p * 12 + e) = 0 := ns_0 (f := fun e => U (p * 12 + e)) (show ns (fun e => U (p * 12 + e)) 12 = 0 by omega) he
    have eS : sUsers z e = nI (mkN (fun p => U (p * 12 + e)) 10) := sSet_mk (g := fun p => U (p * 12 + e)) (fun p hp => by have := (hU p e hp he).2; show U (p * 12 + e) < 2 ^ 30; omega) (Nat.le_refl 10) (fun p hp => (hU p e hp he).1)
    rw [eS, sh_bit p hp _ (mkN_lt _ 10), mkN_bit _ hp, if_neg (show ¬ 0 < U (p * 12 + e) by omega)] at q
    exact q rfl
theorem ap_users (h : IV z n K) (hK : K ≤ 100) (he : e < 12) : ∃ m : Nat, m < 1024 ∧ sUsers z e = nI m ∧ ¬ sUS z e < nI (pcN m) ∧ (sUsers z e = 0 ↔ sUS z e = 0) ∧ ¬ 1024 ≤ sUsers z e := by
  obtain ⟨U, A, hU, hE, hP, -⟩ := ap_uses h hK
  obtain ⟨g1, g2, -, g3⟩ := hE e he
  have eS : sUsers z e = nI (mkN (fun p => U (p * 12 + e)) 10) := sSet_mk (g := fun p => U (p * 12 + e)) (fun p hp => by have := (hU p e hp he).2; show U (p * 12 + e) < 2 ^ 30; omega) (Nat.le_refl 10) (fun p hp => (hU p e hp he).1)
  have hl : mkN (fun p => U (p * 12 + e)) 10 < 1024 := mkN_lt _ 10
  have hp := pcN_le (fun p => U (p * 12 + e))
  refine ⟨_, hl, eS, ?_, ?_, ?_⟩
  · rw [g1]; exact nI_nlt hp (by omega)
  · rw [eS, g1, nI_z (by omega), nI_z (by omega), mkN_0]
  · rw [eS]; exact fun q => absurd ((nI_leI (a := 1024) (by decide) (by omega)).mp q) (by omega)
/-- an excuse -/
theorem ap_e (h : IV z n K) (hK : K ≤ 100) (he : e < n) : ¬ z 2 e < 0 ∧ ¬ 5 ≤ z 2 e ∧ ¬ z 3 e ≤ 0 ∧ ¬ 100 ≤ z 3 e ∧ ¬ z 4 e < sUS z e := by
  obtain ⟨U, A, hU, hE, hP, -⟩ := ap_uses h hK
  have n12 := h.n12
  obtain ⟨g1, g2, g4, g3⟩ := hE e (by omega)
  obtain ⟨⟨k, hk, k2⟩, v, v1, v99, v2⟩ := h.2.2.1 e he
  refine ⟨by rw [k2]; exact nI_pos (by omega), by rw [k2]; exact fun q => absurd ((nI_leI (a := 5) (by decide) (by omega)).mp q) (by omega), by rw [v2]; exact fun q => absurd ((nI_leI (b := 0) (by omega) (by decide)).mp q) (by omega), by rw [v2]; exact fun q => absurd ((nI_leI (a := 100) (by decide) (by omega)).mp q) (by omega), by rw [g1, g4]; exact nI_nlt g2 (by omega)⟩
theorem ap_WO (h : IV z n K) (hK : K ≤ 100) (he : e < 12) : bx_sum (fun p => sNov z p e) 10 = 0 ↔ sWO z e = 1 := by
  have hv : ∀ p : Nat, ∃ v : Nat, p < 10 → v ≤ 100 ∧ sNov z p e = nI v := fun p => by
    by_cases c : p < 10
    · obtain ⟨v, a, b, -⟩ := ap_nov h hK c he
      exact ⟨v, fun _ => ⟨a, b⟩⟩
    · exact ⟨0, fun q => absurd q c⟩
  obtain ⟨V, hV⟩ : ∃ V : Nat → Nat, ∀ p : Nat, p < 10 → V p ≤ 100 ∧ sNov z p e = nI (V p) := ⟨fun p => Classical.choose (hv p), fun p hp => Classical.choose_spec (hv p) hp⟩
  have e1 : bx_sum (fun p => sNov z p e) 10 = nI (ns V 10) := bx_ns (fun p hp => (hV p hp).2)
  have b1 : ns V 10 ≤ ns (fun _ => 100) 10 := ns_mono (fun p hp => (hV p hp).1)
  have b2 : ns (fun _ => 100) 10 = 1000 := rfl
  rw [e1, nI_z (by omega)]
  unfold sWO
  constructor
  · intro q
    rw [if_pos (fun p hp => by rw [(hV p hp).2, ns_0 q hp]; decide)]
  · intro q
    by_cases c : ∀ p : Nat, p < 10 → sNov z p e ≤ 0
    · refine ns_z (fun p hp => ?_)
      have := c p hp
      have b := (hV p hp).1
      rw [(hV p hp).2, show (0 : Int32) = nI 0 from rfl, nI_leI (by omega) (by decide)] at this
      omega
    · rw [if_neg c] at q; exact absurd q (by decide)
theorem ap_wo1 (h : IV z n K) (hK : K ≤ 100) (he : e < 12) (c : bx_sum (fun p => sNov z p e) 10 = 0) : sWOs z e + 1 = sWOs z (e + 1) := by
  show _ = (if sWO z e = 0 then sCnt (fun e => sWO z e) e else sCnt (fun e => sWO z e) e + 1)
  rw [if_neg (by rw [(ap_WO h hK he).mp c]; decide)]; rfl
theorem ap_wo0 (h : IV z n K) (hK : K ≤ 100) (he : e < 12) (c : ¬ bx_sum (fun p => sNov z p e) 10 = 0) : sWOs z e + 0 = sWOs z (e + 1) := by
  show _ = (if sWO z e = 0 then sCnt (fun e => sWO z e) e else sCnt (fun e => sWO z e) e + 1)
  rw [if_pos ((sWO_01 z e).resolve_right (fun q => c ((ap_WO h hK he).mpr q))), Int32.add_zero]; rfl
theorem ap_gr (z : Nat → Nat → Int32) : bx_sum (fun p => if p % 2 = 0 then z 12 (p / 2) else 0) 10 = bx_sum (z 12) 5 := by
  show 0 + z 12 0 + 0 + z 12 1 + 0 + z 12 2 + 0 + z 12 3 + 0 + z 12 4 + 0 = 0 + z 12 0 + z 12 1 + z 12 2 + z 12 3 + z 12 4
  simp only [Int32.add_zero]
theorem ap_ref (h : IV z n K) : bx_sum (z 10) 10 = z 13 1 + z 13 2 + z 13 3 + z 13 4 := by
  obtain ⟨h1, h2, h3, h4, h5, ⟨F, D, R, Q, f1, f2, f3, f4, f5, f6⟩, h7, h8, h9⟩ := h
  rw [bx_ns (f := R) (fun j hj => (f1 j hj).2.2), f2 1 (by decide) (by decide), f2 2 (by decide) (by decide), f2 3 (by decide) (by decide), f2 4 (by decide) (by decide), nI_add, nI_add, nI_add, f3]
theorem ap_all (h : IV z n K) : bx_sum (z 4) n = bx_sum (z 9) 10 := by
  have n12 := h.n12
  obtain ⟨h1, h2, h3, ⟨U, A, S, u1, u2, u3, u4, u5, u6, u7, u8, u9⟩, h5, h6, h7, h8, h9⟩ := h
  rw [bx_ns (f := A) (fun j hj => u2 j (by omega)), bx_ns (f := S) u3, ← u8, ns_cut n12 (fun j a b => (u4 j a b).1)]
theorem ap_us (h : IV z n K) (hK : K ≤ 100) : bx_sum (fun e => sUS z e) n = bx_sum (fun p => sUP z p) 10 := by
  have n12 := h.n12
  obtain ⟨U, A, hU, hE, hP, h0⟩ := ap_uses h hK
  rw [bx_ns (f := fun e => ns (fun p => U (p * 12 + e)) 10) (fun j hj => (hE j (by omega)).1), bx_ns (f := fun p => ns (fun e => U (p * 12 + e)) 12) (fun j hj => (hP j hj).1), ns_swap, ← ns_cut n12 (fun j a b => ns_z (fun p hp => h0 j a b p hp))]
end AP
end
