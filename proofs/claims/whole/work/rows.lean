section
-- ===== PART A: goes FIRST, ahead of the names: the tables' words, and 'selects' of the private methods out of them =====
/-- a private method of a class that the tables say can be made, by its rows of tables_1 -/
def lw_okq (q : MethodName × Nat) : Prop := (q.1.cls ≠ "java/lang/invoke/MethodHandle" ∧ q.1.cls ≠ "java/lang/invoke/VarHandle") ∧ Cond.instantiable q.1.cls q.2 ∈ tables_1 ∧ Cond.privateMethod q.1 ∈ tables_1 ∧ Cond.instanceMethod q.1 ∈ tables_1
theorem lw_p0 : lw_okq (⟨"ExcuseTariffs", "offerError", "(IIII)I"⟩, 6) := ⟨⟨by decide +kernel, by decide +kernel⟩, List.mem_of_getElem? (i := 10) (by decide +kernel), List.mem_of_getElem? (i := 220) (by decide +kernel), List.mem_of_getElem? (i := 221) (by decide +kernel)⟩
theorem lw_p1 : lw_okq (⟨"ExcuseTariffs$Reader", "takesPupil", "(C)Z"⟩, 5) := ⟨⟨by decide +kernel, by decide +kernel⟩, List.mem_of_getElem? (i := 134) (by decide +kernel), List.mem_of_getElem? (i := 313) (by decide +kernel), List.mem_of_getElem? (i := 314) (by decide +kernel)⟩
theorem lw_p2 : lw_okq (⟨"ExcuseTariffs$Reader", "goesOn", "(ZI)Z"⟩, 5) := ⟨⟨by decide +kernel, by decide +kernel⟩, List.mem_of_getElem? (i := 134) (by decide +kernel), List.mem_of_getElem? (i := 321) (by decide +kernel), List.mem_of_getElem? (i := 322) (by decide +kernel)⟩
theorem lw_p3 : lw_okq (⟨"ExcuseTariffs$Reader", "takesExcuse", "(C)Z"⟩, 5) := ⟨⟨by decide +kernel, by decide +kernel⟩, List.mem_of_getElem? (i := 134) (by decide +kernel), List.mem_of_getElem? (i := 325) (by decide +kernel), List.mem_of_getElem? (i := 326) (by decide +kernel)⟩
theorem lw_p4 : lw_okq (⟨"ExcuseTariffs$Reader", "takesMinutes", "(CII)Z"⟩, 5) := ⟨⟨by decide +kernel, by decide +kernel⟩, List.mem_of_getElem? (i := 134) (by decide +kernel), List.mem_of_getElem? (i := 329) (by decide +kernel), List.mem_of_getElem? (i := 330) (by decide +kernel)⟩
theorem lw_p5 : lw_okq (⟨"ExcuseTariffs$Reader", "takesAfterMinutes", "(C)Z"⟩, 5) := ⟨⟨by decide +kernel, by decide +kernel⟩, List.mem_of_getElem? (i := 134) (by decide +kernel), List.mem_of_getElem? (i := 333) (by decide +kernel), List.mem_of_getElem? (i := 334) (by decide +kernel)⟩
theorem lw_p6 : lw_okq (⟨"ExcuseTariffs$Reader", "takesComma", "(C)Z"⟩, 5) := ⟨⟨by decide +kernel, by decide +kernel⟩, List.mem_of_getElem? (i := 134) (by decide +kernel), List.mem_of_getElem? (i := 337) (by decide +kernel), List.mem_of_getElem? (i := 338) (by decide +kernel)⟩
theorem lw_p7 : lw_okq (⟨"ExcuseTariffs$Reader", "takesWitness", "(C)Z"⟩, 5) := ⟨⟨by decide +kernel, by decide +kernel⟩, List.mem_of_getElem? (i := 134) (by decide +kernel), List.mem_of_getElem? (i := 341) (by decide +kernel), List.mem_of_getElem? (i := 342) (by decide +kernel)⟩
theorem lw_p8 : lw_okq (⟨"ExcuseTariffs", "stampsForWhatWasRead", "()I"⟩, 6) := ⟨⟨by decide +kernel, by decide +kernel⟩, List.mem_of_getElem? (i := 10) (by decide +kernel), List.mem_of_getElem? (i := 349) (by decide +kernel), List.mem_of_getElem? (i := 350) (by decide +kernel)⟩
theorem lw_p9 : lw_okq (⟨"ExcuseTariffsModel", "lay", "(III)V"⟩, 12) := ⟨⟨by decide +kernel, by decide +kernel⟩, List.mem_of_getElem? (i := 446) (by decide +kernel), List.mem_of_getElem? (i := 452) (by decide +kernel), List.mem_of_getElem? (i := 453) (by decide +kernel)⟩
theorem lw_p10 : lw_okq (⟨"ExcuseTariffsModel", "record", "()V"⟩, 12) := ⟨⟨by decide +kernel, by decide +kernel⟩, List.mem_of_getElem? (i := 446) (by decide +kernel), List.mem_of_getElem? (i := 511) (by decide +kernel), List.mem_of_getElem? (i := 512) (by decide +kernel)⟩
theorem lw_p11 : lw_okq (⟨"ExcuseTariffsModel", "isExcuse", "(I)Z"⟩, 12) := ⟨⟨by decide +kernel, by decide +kernel⟩, List.mem_of_getElem? (i := 446) (by decide +kernel), List.mem_of_getElem? (i := 530) (by decide +kernel), List.mem_of_getElem? (i := 531) (by decide +kernel)⟩
theorem lw_p12 : lw_okq (⟨"ExcuseTariffsModel", "ofExcuse", "(II)I"⟩, 12) := ⟨⟨by decide +kernel, by decide +kernel⟩, List.mem_of_getElem? (i := 446) (by decide +kernel), List.mem_of_getElem? (i := 534) (by decide +kernel), List.mem_of_getElem? (i := 535) (by decide +kernel)⟩
theorem lw_p13 : lw_okq (⟨"ExcuseTariffsModel", "whyNotOffer", "(IIII)I"⟩, 12) := ⟨⟨by decide +kernel, by decide +kernel⟩, List.mem_of_getElem? (i := 446) (by decide +kernel), List.mem_of_getElem? (i := 542) (by decide +kernel), List.mem_of_getElem? (i := 543) (by decide +kernel)⟩
theorem lw_p14 : lw_okq (⟨"ExcuseTariffsModel", "offerNow", "(IIII)I"⟩, 12) := ⟨⟨by decide +kernel, by decide +kernel⟩, List.mem_of_getElem? (i := 446) (by decide +kernel), List.mem_of_getElem? (i := 549) (by decide +kernel), List.mem_of_getElem? (i := 550) (by decide +kernel)⟩
theorem lw_p15 : lw_okq (⟨"ExcuseTariffsModel", "reason", "(IIII)I"⟩, 12) := ⟨⟨by decide +kernel, by decide +kernel⟩, List.mem_of_getElem? (i := 446) (by decide +kernel), List.mem_of_getElem? (i := 553) (by decide +kernel), List.mem_of_getElem? (i := 554) (by decide +kernel)⟩
def lw_privs_1 : List (MethodName × Nat) := [(⟨"ExcuseTariffs", "offerError", "(IIII)I"⟩, 6), (⟨"ExcuseTariffs$Reader", "takesPupil", "(C)Z"⟩, 5), (⟨"ExcuseTariffs$Reader", "goesOn", "(ZI)Z"⟩, 5), (⟨"ExcuseTariffs$Reader", "takesExcuse", "(C)Z"⟩, 5), (⟨"ExcuseTariffs$Reader", "takesMinutes", "(CII)Z"⟩, 5), (⟨"ExcuseTariffs$Reader", "takesAfterMinutes", "(C)Z"⟩, 5), (⟨"ExcuseTariffs$Reader", "takesComma", "(C)Z"⟩, 5), (⟨"ExcuseTariffs$Reader", "takesWitness", "(C)Z"⟩, 5), (⟨"ExcuseTariffs", "stampsForWhatWasRead", "()I"⟩, 6), (⟨"ExcuseTariffsModel", "lay", "(III)V"⟩, 12), (⟨"ExcuseTariffsModel", "record", "()V"⟩, 12), (⟨"ExcuseTariffsModel", "isExcuse", "(I)Z"⟩, 12), (⟨"ExcuseTariffsModel", "ofExcuse", "(II)I"⟩, 12), (⟨"ExcuseTariffsModel", "whyNotOffer", "(IIII)I"⟩, 12), (⟨"ExcuseTariffsModel", "offerNow", "(IIII)I"⟩, 12), (⟨"ExcuseTariffsModel", "reason", "(IIII)I"⟩, 12)]
theorem lw_r1 : ∀ q ∈ lw_privs_1, lw_okq q := List.forall_mem_cons.mpr ⟨lw_p0, List.forall_mem_cons.mpr ⟨lw_p1, List.forall_mem_cons.mpr ⟨lw_p2, List.forall_mem_cons.mpr ⟨lw_p3, List.forall_mem_cons.mpr ⟨lw_p4, List.forall_mem_cons.mpr ⟨lw_p5, List.forall_mem_cons.mpr ⟨lw_p6, List.forall_mem_cons.mpr ⟨lw_p7, List.forall_mem_cons.mpr ⟨lw_p8, List.forall_mem_cons.mpr ⟨lw_p9, List.forall_mem_cons.mpr ⟨lw_p10, List.forall_mem_cons.mpr ⟨lw_p11, List.forall_mem_cons.mpr ⟨lw_p12, List.forall_mem_cons.mpr ⟨lw_p13, List.forall_mem_cons.mpr ⟨lw_p14, List.forall_mem_cons.mpr ⟨lw_p15, fun _ h => absurd h List.not_mem_nil⟩⟩⟩⟩⟩⟩⟩⟩⟩⟩⟩⟩⟩⟩⟩⟩
theorem lw_p16 : lw_okq (⟨"ExcuseTariffsModel", "uses", "(II)I"⟩, 12) := ⟨⟨by decide +kernel, by decide +kernel⟩, List.mem_of_getElem? (i := 446) (by decide +kernel), List.mem_of_getElem? (i := 557) (by decide +kernel), List.mem_of_getElem? (i := 558) (by decide +kernel)⟩
theorem lw_p17 : lw_okq (⟨"ExcuseTariffsModel", "of", "(II)I"⟩, 12) := ⟨⟨by decide +kernel, by decide +kernel⟩, List.mem_of_getElem? (i := 446) (by decide +kernel), List.mem_of_getElem? (i := 561) (by decide +kernel), List.mem_of_getElem? (i := 562) (by decide +kernel)⟩
theorem lw_p18 : lw_okq (⟨"ExcuseTariffsModel", "weightOf", "(IIII)I"⟩, 12) := ⟨⟨by decide +kernel, by decide +kernel⟩, List.mem_of_getElem? (i := 446) (by decide +kernel), List.mem_of_getElem? (i := 565) (by decide +kernel), List.mem_of_getElem? (i := 566) (by decide +kernel)⟩
theorem lw_p19 : lw_okq (⟨"ExcuseTariffsModel", "noveltyOf", "(II)I"⟩, 12) := ⟨⟨by decide +kernel, by decide +kernel⟩, List.mem_of_getElem? (i := 446) (by decide +kernel), List.mem_of_getElem? (i := 569) (by decide +kernel), List.mem_of_getElem? (i := 570) (by decide +kernel)⟩
theorem lw_p20 : lw_okq (⟨"ExcuseTariffsModel", "usesBySchool", "(I)I"⟩, 12) := ⟨⟨by decide +kernel, by decide +kernel⟩, List.mem_of_getElem? (i := 446) (by decide +kernel), List.mem_of_getElem? (i := 573) (by decide +kernel), List.mem_of_getElem? (i := 574) (by decide +kernel)⟩
theorem lw_p21 : lw_okq (⟨"ExcuseTariffsModel", "usesByClass", "(II)I"⟩, 12) := ⟨⟨by decide +kernel, by decide +kernel⟩, List.mem_of_getElem? (i := 446) (by decide +kernel), List.mem_of_getElem? (i := 577) (by decide +kernel), List.mem_of_getElem? (i := 578) (by decide +kernel)⟩
theorem lw_p22 : lw_okq (⟨"ExcuseTariffsModel", "grudge", "(I)I"⟩, 12) := ⟨⟨by decide +kernel, by decide +kernel⟩, List.mem_of_getElem? (i := 446) (by decide +kernel), List.mem_of_getElem? (i := 581) (by decide +kernel), List.mem_of_getElem? (i := 582) (by decide +kernel)⟩
theorem lw_p23 : lw_okq (⟨"ExcuseTariffsModel", "standsBy", "(II)I"⟩, 12) := ⟨⟨by decide +kernel, by decide +kernel⟩, List.mem_of_getElem? (i := 446) (by decide +kernel), List.mem_of_getElem? (i := 585) (by decide +kernel), List.mem_of_getElem? (i := 586) (by decide +kernel)⟩
theorem lw_p24 : lw_okq (⟨"ExcuseTariffsModel", "angers", "(I)V"⟩, 12) := ⟨⟨by decide +kernel, by decide +kernel⟩, List.mem_of_getElem? (i := 446) (by decide +kernel), List.mem_of_getElem? (i := 589) (by decide +kernel), List.mem_of_getElem? (i := 590) (by decide +kernel)⟩
theorem lw_p25 : lw_okq (⟨"ExcuseTariffsModel", "loses", "(II)V"⟩, 12) := ⟨⟨by decide +kernel, by decide +kernel⟩, List.mem_of_getElem? (i := 446) (by decide +kernel), List.mem_of_getElem? (i := 593) (by decide +kernel), List.mem_of_getElem? (i := 594) (by decide +kernel)⟩
theorem lw_p26 : lw_okq (⟨"ExcuseTariffsModel", "readPad", "(Z)I"⟩, 12) := ⟨⟨by decide +kernel, by decide +kernel⟩, List.mem_of_getElem? (i := 446) (by decide +kernel), List.mem_of_getElem? (i := 618) (by decide +kernel), List.mem_of_getElem? (i := 619) (by decide +kernel)⟩
theorem lw_p27 : lw_okq (⟨"ExcuseTariffsModel", "readOffer", "()Z"⟩, 12) := ⟨⟨by decide +kernel, by decide +kernel⟩, List.mem_of_getElem? (i := 446) (by decide +kernel), List.mem_of_getElem? (i := 622) (by decide +kernel), List.mem_of_getElem? (i := 623) (by decide +kernel)⟩
theorem lw_p28 : lw_okq (⟨"ExcuseTariffsModel", "takesOne", "(II)I"⟩, 12) := ⟨⟨by decide +kernel, by decide +kernel⟩, List.mem_of_getElem? (i := 446) (by decide +kernel), List.mem_of_getElem? (i := 626) (by decide +kernel), List.mem_of_getElem? (i := 627) (by decide +kernel)⟩
theorem lw_p29 : lw_okq (⟨"ExcuseTariffsModel", "sees", "(II)Z"⟩, 12) := ⟨⟨by decide +kernel, by decide +kernel⟩, List.mem_of_getElem? (i := 446) (by decide +kernel), List.mem_of_getElem? (i := 630) (by decide +kernel), List.mem_of_getElem? (i := 631) (by decide +kernel)⟩
theorem lw_p30 : lw_okq (⟨"ExcuseTariffsModel", "takes", "(I)Z"⟩, 12) := ⟨⟨by decide +kernel, by decide +kernel⟩, List.mem_of_getElem? (i := 446) (by decide +kernel), List.mem_of_getElem? (i := 634) (by decide +kernel), List.mem_of_getElem? (i := 635) (by decide +kernel)⟩
theorem lw_p31 : lw_okq (⟨"ExcuseTariffsModel", "readMinutes", "()Z"⟩, 12) := ⟨⟨by decide +kernel, by decide +kernel⟩, List.mem_of_getElem? (i := 446) (by decide +kernel), List.mem_of_getElem? (i := 638) (by decide +kernel), List.mem_of_getElem? (i := 639) (by decide +kernel)⟩
def lw_privs_2 : List (MethodName × Nat) := [(⟨"ExcuseTariffsModel", "uses", "(II)I"⟩, 12), (⟨"ExcuseTariffsModel", "of", "(II)I"⟩, 12), (⟨"ExcuseTariffsModel", "weightOf", "(IIII)I"⟩, 12), (⟨"ExcuseTariffsModel", "noveltyOf", "(II)I"⟩, 12), (⟨"ExcuseTariffsModel", "usesBySchool", "(I)I"⟩, 12), (⟨"ExcuseTariffsModel", "usesByClass", "(II)I"⟩, 12), (⟨"ExcuseTariffsModel", "grudge", "(I)I"⟩, 12), (⟨"ExcuseTariffsModel", "standsBy", "(II)I"⟩, 12), (⟨"ExcuseTariffsModel", "angers", "(I)V"⟩, 12), (⟨"ExcuseTariffsModel", "loses", "(II)V"⟩, 12), (⟨"ExcuseTariffsModel", "readPad", "(Z)I"⟩, 12), (⟨"ExcuseTariffsModel", "readOffer", "()Z"⟩, 12), (⟨"ExcuseTariffsModel", "takesOne", "(II)I"⟩, 12), (⟨"ExcuseTariffsModel", "sees", "(II)Z"⟩, 12), (⟨"ExcuseTariffsModel", "takes", "(I)Z"⟩, 12), (⟨"ExcuseTariffsModel", "readMinutes", "()Z"⟩, 12)]
theorem lw_r2 : ∀ q ∈ lw_privs_2, lw_okq q := List.forall_mem_cons.mpr ⟨lw_p16, List.forall_mem_cons.mpr ⟨lw_p17, List.forall_mem_cons.mpr ⟨lw_p18, List.forall_mem_cons.mpr ⟨lw_p19, List.forall_mem_cons.mpr ⟨lw_p20, List.forall_mem_cons.mpr ⟨lw_p21, List.forall_mem_cons.mpr ⟨lw_p22, List.forall_mem_cons.mpr ⟨lw_p23, List.forall_mem_cons.mpr ⟨lw_p24, List.forall_mem_cons.mpr ⟨lw_p25, List.forall_mem_cons.mpr ⟨lw_p26, List.forall_mem_cons.mpr ⟨lw_p27, List.forall_mem_cons.mpr ⟨lw_p28, List.forall_mem_cons.mpr ⟨lw_p29, List.forall_mem_cons.mpr ⟨lw_p30, List.forall_mem_cons.mpr ⟨lw_p31, fun _ h => absurd h List.not_mem_nil⟩⟩⟩⟩⟩⟩⟩⟩⟩⟩⟩⟩⟩⟩⟩⟩
theorem lw_p32 : lw_okq (⟨"ExcuseTariffsModel", "users", "(I)I"⟩, 12) := ⟨⟨by decide +kernel, by decide +kernel⟩, List.mem_of_getElem? (i := 446) (by decide +kernel), List.mem_of_getElem? (i := 650) (by decide +kernel), List.mem_of_getElem? (i := 651) (by decide +kernel)⟩
theorem lw_p33 : lw_okq (⟨"ExcuseTariffsModel", "usesBy", "(I)I"⟩, 12) := ⟨⟨by decide +kernel, by decide +kernel⟩, List.mem_of_getElem? (i := 446) (by decide +kernel), List.mem_of_getElem? (i := 658) (by decide +kernel), List.mem_of_getElem? (i := 659) (by decide +kernel)⟩
theorem lw_p34 : lw_okq (⟨"ExcuseTariffsModel", "sumOfPupils", "(I)I"⟩, 12) := ⟨⟨by decide +kernel, by decide +kernel⟩, List.mem_of_getElem? (i := 446) (by decide +kernel), List.mem_of_getElem? (i := 678) (by decide +kernel), List.mem_of_getElem? (i := 679) (by decide +kernel)⟩
theorem lw_p35 : lw_okq (⟨"ExcuseTariffsModel", "grudges", "()I"⟩, 12) := ⟨⟨by decide +kernel, by decide +kernel⟩, List.mem_of_getElem? (i := 446) (by decide +kernel), List.mem_of_getElem? (i := 682) (by decide +kernel), List.mem_of_getElem? (i := 683) (by decide +kernel)⟩
theorem lw_p36 : lw_okq (⟨"ExcuseTariffsModel", "wornOut", "()I"⟩, 12) := ⟨⟨by decide +kernel, by decide +kernel⟩, List.mem_of_getElem? (i := 446) (by decide +kernel), List.mem_of_getElem? (i := 686) (by decide +kernel), List.mem_of_getElem? (i := 687) (by decide +kernel)⟩
def lw_privs_3 : List (MethodName × Nat) := [(⟨"ExcuseTariffsModel", "users", "(I)I"⟩, 12), (⟨"ExcuseTariffsModel", "usesBy", "(I)I"⟩, 12), (⟨"ExcuseTariffsModel", "sumOfPupils", "(I)I"⟩, 12), (⟨"ExcuseTariffsModel", "grudges", "()I"⟩, 12), (⟨"ExcuseTariffsModel", "wornOut", "()I"⟩, 12)]
theorem lw_r3 : ∀ q ∈ lw_privs_3, lw_okq q := List.forall_mem_cons.mpr ⟨lw_p32, List.forall_mem_cons.mpr ⟨lw_p33, List.forall_mem_cons.mpr ⟨lw_p34, List.forall_mem_cons.mpr ⟨lw_p35, List.forall_mem_cons.mpr ⟨lw_p36, fun _ h => absurd h List.not_mem_nil⟩⟩⟩⟩⟩
def lw_privs : List (MethodName × Nat) := lw_privs_1 ++ (lw_privs_2 ++ (lw_privs_3))
def lw_tbl : List Cond := k2_sels lw_privs ++ tables_1
theorem lw_privs_ok : ∀ q ∈ lw_privs, lw_okq q := by
  show ∀ q ∈ lw_privs_1 ++ (lw_privs_2 ++ (lw_privs_3)), lw_okq q
  exact List.forall_mem_append.mpr ⟨lw_r1, List.forall_mem_append.mpr ⟨lw_r2, lw_r3⟩⟩
end
section
/-! ===== BEGIN words of one list among another's, by their places ===== -/
theorem goodIn_r {big : List Cond} (ws : List Cond) (ps : List Nat) (hp : ws = ps.filterMap (fun i => big[i]?)) (h : ws.all goodWord = true) : GoodIn big ws := by
  intro w hw
  have h1 := List.all_eq_true.mp h w hw
  rw [hp] at hw
  obtain ⟨i, -, hi⟩ := List.mem_filterMap.mp hw
  have hm : w ∈ big := by first | exact List.mem_of_getElem? hi | exact List.getElem?_mem hi
  exact ⟨hm, good_of_word h1⟩
theorem goodIn_app {big a b : List Cond} (ha : GoodIn big a) (hb : GoodIn big b) : GoodIn big (a ++ b) := fun w h => (List.mem_append.mp h).elim (ha w) (hb w)
theorem goodIn_ca {big a b : List Cond} {c : Cond} (ha : GoodIn big (c :: a)) (hb : GoodIn big b) : GoodIn big (c :: (a ++ b)) := fun w h => (List.mem_cons.mp h).elim (fun e => ha w (List.mem_cons.mpr (Or.inl e))) (fun h => (List.mem_append.mp h).elim (fun h => ha w (List.mem_cons.mpr (Or.inr h))) (hb w))
theorem goodIn_sub {big ws : List Cond} (hm : ∀ w ∈ ws, w ∈ big) (h : ws.all goodWord = true) : GoodIn big ws := fun w hw => ⟨hm w hw, good_of_word (List.all_eq_true.mp h w hw)⟩
/-! ===== END ===== -/

/-! ===== BEGIN printed: names, fields, word lists, decode rows ===== -/
def RX0 : String := "ExcuseTariffs$History"
def TX0 : u_T := fun k => match k with
  | 0 => ("ExcuseTariffs$History", "states", "[LExcuseTariffs$School;", true)
  | 1 => ("ExcuseTariffs$History", "next", "I", false)
  | _ => ("ExcuseTariffs$History", "kept", "I", false)
def tyX0 : Nat → FieldType := fun k => match k with
  | 0 => .array (.object "ExcuseTariffs$School")
  | 1 => .int
  | _ => .int
abbrev wsX00 : List Cond := u_ws RX0 TX0 3
theorem nmX0 : ∀ a, a < 3 → ∀ b, b < 3 → a ≠ b → (TX0 a).2.1 ≠ (TX0 b).2.1 := by decide +kernel
theorem tyX0_ok : ∀ k, k < 3 → parseFieldDescriptor (TX0 k).2.2.1 = some (tyX0 k) := by decide +kernel
abbrev cX0_init : ByteArray := prog_2_method_1_code
def yX0_init : MethodName := ⟨RX0, "<init>", "()V"⟩
abbrev cX0_keep : ByteArray := prog_2_method_2_code
def yX0_keep : MethodName := ⟨RX0, "keep", "(LExcuseTariffs$School;)V"⟩
abbrev cX0_takeBack : ByteArray := prog_2_method_3_code
def yX0_takeBack : MethodName := ⟨RX0, "takeBack", "(LExcuseTariffs$School;)V"⟩
def RX1 : String := "ExcuseTariffs$Pad"
def TX1 : u_T := fun k => match k with
  | 0 => ("ExcuseTariffs$Pad", "characters", "[C", true)
  | _ => ("ExcuseTariffs$Pad", "length", "I", false)
def tyX1 : Nat → FieldType := fun k => match k with
  | 0 => .array .char
  | _ => .int
abbrev wsX10 : List Cond := u_ws RX1 TX1 2
theorem nmX1 : ∀ a, a < 2 → ∀ b, b < 2 → a ≠ b → (TX1 a).2.1 ≠ (TX1 b).2.1 := by decide +kernel
theorem tyX1_ok : ∀ k, k < 2 → parseFieldDescriptor (TX1 k).2.2.1 = some (tyX1 k) := by decide +kernel
abbrev cX1_init : ByteArray := prog_3_method_1_code
def yX1_init : MethodName := ⟨RX1, "<init>", "()V"⟩
abbrev cX1_append : ByteArray := prog_3_method_2_code
def yX1_append : MethodName := ⟨RX1, "append", "(C)V"⟩
def RX2 : String := "ExcuseTariffs$Reader"
def TX2 : u_T := fun k => match k with
  | 0 => ("ExcuseTariffs$Reader", "place", "I", false)
  | 1 => ("ExcuseTariffs$Reader", "pupil", "I", false)
  | 2 => ("ExcuseTariffs$Reader", "excuse", "I", false)
  | 3 => ("ExcuseTariffs$Reader", "minutes", "I", false)
  | _ => ("ExcuseTariffs$Reader", "witness", "I", false)
def tyX2 : Nat → FieldType := fun k => match k with
  | 0 => .int
  | 1 => .int
  | 2 => .int
  | 3 => .int
  | _ => .int
abbrev wsX20 : List Cond := u_ws RX2 TX2 5
theorem nmX2 : ∀ a, a < 5 → ∀ b, b < 5 → a ≠ b → (TX2 a).2.1 ≠ (TX2 b).2.1 := by decide +kernel
theorem tyX2_ok : ∀ k, k < 5 → parseFieldDescriptor (TX2 k).2.2.1 = some (tyX2 k) := by decide +kernel
abbrev cX2_init : ByteArray := prog_4_method_1_code
def yX2_init : MethodName := ⟨RX2, "<init>", "()V"⟩
abbrev cX2_begin : ByteArray := prog_4_method_2_code
def yX2_begin : MethodName := ⟨RX2, "begin", "()V"⟩
abbrev cX2_takes : ByteArray := prog_4_method_3_code
def yX2_takes : MethodName := ⟨RX2, "takes", "(C)Z"⟩
abbrev cX2_canEnd : ByteArray := prog_4_method_4_code
def yX2_canEnd : MethodName := ⟨RX2, "canEnd", "()Z"⟩
abbrev cX2_goesOn : ByteArray := prog_4_method_5_code
def yX2_goesOn : MethodName := ⟨RX2, "goesOn", "(ZI)Z"⟩
abbrev cX2_takesPupil : ByteArray := prog_4_method_6_code
def yX2_takesPupil : MethodName := ⟨RX2, "takesPupil", "(C)Z"⟩
abbrev cX2_takesExcuse : ByteArray := prog_4_method_7_code
def yX2_takesExcuse : MethodName := ⟨RX2, "takesExcuse", "(C)Z"⟩
abbrev cX2_takesMinutes : ByteArray := prog_4_method_8_code
def yX2_takesMinutes : MethodName := ⟨RX2, "takesMinutes", "(CII)Z"⟩
abbrev cX2_takesAfterMinutes : ByteArray := prog_4_method_9_code
def yX2_takesAfterMinutes : MethodName := ⟨RX2, "takesAfterMinutes", "(C)Z"⟩
abbrev cX2_takesWitness : ByteArray := prog_4_method_10_code
def yX2_takesWitness : MethodName := ⟨RX2, "takesWitness", "(C)Z"⟩
abbrev cX2_takesComma : ByteArray := prog_4_method_11_code
def yX2_takesComma : MethodName := ⟨RX2, "takesComma", "(C)Z"⟩
abbrev cX2_isDigit : ByteArray := prog_4_method_12_code
def yX2_isDigit : MethodName := ⟨RX2, "isDigit", "(C)Z"⟩
def RX3 : String := "ExcuseTariffs$School"
def TX3 : u_T := fun k => match k with
  | 0 => ("ExcuseTariffs$School", "settings", "[I", true)
  | 1 => ("ExcuseTariffs$School", "excuses", "I", false)
  | 2 => ("ExcuseTariffs$School", "kinds", "[I", true)
  | 3 => ("ExcuseTariffs$School", "worths", "[I", true)
  | 4 => ("ExcuseTariffs$School", "usesInAllTerms", "[I", true)
  | 5 => ("ExcuseTariffs$School", "uses", "[I", true)
  | 6 => ("ExcuseTariffs$School", "credits", "[I", true)
  | 7 => ("ExcuseTariffs$School", "fines", "[I", true)
  | 8 => ("ExcuseTariffs$School", "paid", "[I", true)
  | 9 => ("ExcuseTariffs$School", "stamps", "[I", true)
  | 10 => ("ExcuseTariffs$School", "refusals", "[I", true)
  | 11 => ("ExcuseTariffs$School", "latestKinds", "[I", true)
  | 12 => ("ExcuseTariffs$School", "grudges", "[I", true)
  | 13 => ("ExcuseTariffs$School", "refusedFor", "[I", true)
  | _ => ("ExcuseTariffs$School", "termsEnded", "I", false)
def tyX3 : Nat → FieldType := fun k => match k with
  | 0 => .array .int
  | 1 => .int
  | 2 => .array .int
  | 3 => .array .int
  | 4 => .array .int
  | 5 => .array .int
  | 6 => .array .int
  | 7 => .array .int
  | 8 => .array .int
  | 9 => .array .int
  | 10 => .array .int
  | 11 => .array .int
  | 12 => .array .int
  | 13 => .array .int
  | _ => .int
abbrev wsX30 : List Cond := u_ws RX3 TX3 15
theorem nmX3 : ∀ a, a < 15 → ∀ b, b < 15 → a ≠ b → (TX3 a).2.1 ≠ (TX3 b).2.1 := by decide +kernel
theorem tyX3_ok : ∀ k, k < 15 → parseFieldDescriptor (TX3 k).2.2.1 = some (tyX3 k) := by decide +kernel
abbrev cX3_init : ByteArray := prog_5_method_1_code
def yX3_init : MethodName := ⟨RX3, "<init>", "()V"⟩
abbrev cX3_become : ByteArray := prog_5_method_2_code
def yX3_become : MethodName := ⟨RX3, "become", "(LExcuseTariffs$School;)V"⟩
abbrev cX3_hasExcuse : ByteArray := prog_5_method_3_code
def yX3_hasExcuse : MethodName := ⟨RX3, "hasExcuse", "(I)Z"⟩
abbrev cX3_addExcuse : ByteArray := prog_5_method_4_code
def yX3_addExcuse : MethodName := ⟨RX3, "addExcuse", "(II)I"⟩
abbrev cX3_usesOf : ByteArray := prog_5_method_5_code
def yX3_usesOf : MethodName := ⟨RX3, "usesOf", "(II)I"⟩
abbrev cX3_usesByPupil : ByteArray := prog_5_method_6_code
def yX3_usesByPupil : MethodName := ⟨RX3, "usesByPupil", "(I)I"⟩
abbrev cX3_usesByClass : ByteArray := prog_5_method_7_code
def yX3_usesByClass : MethodName := ⟨RX3, "usesByClass", "(II)I"⟩
abbrev cX3_usesBySchool : ByteArray := prog_5_method_8_code
def yX3_usesBySchool : MethodName := ⟨RX3, "usesBySchool", "(I)I"⟩
abbrev cX3_usersOf : ByteArray := prog_5_method_9_code
def yX3_usersOf : MethodName := ⟨RX3, "usersOf", "(I)I"⟩
abbrev cX3_noveltyFor : ByteArray := prog_5_method_10_code
def yX3_noveltyFor : MethodName := ⟨RX3, "noveltyFor", "(II)I"⟩
abbrev cX3_wornOutExcuses : ByteArray := prog_5_method_11_code
def yX3_wornOutExcuses : MethodName := ⟨RX3, "wornOutExcuses", "()I"⟩
abbrev cX3_isWornOut : ByteArray := prog_5_method_12_code
def yX3_isWornOut : MethodName := ⟨RX3, "isWornOut", "(I)Z"⟩
abbrev cX3_weightOf : ByteArray := prog_5_method_13_code
def yX3_weightOf : MethodName := ⟨RX3, "weightOf", "(IIII)I"⟩
abbrev cX3_standingOf : ByteArray := prog_5_method_14_code
def yX3_standingOf : MethodName := ⟨RX3, "standingOf", "(II)I"⟩
abbrev cX3_reasonAgainst : ByteArray := prog_5_method_15_code
def yX3_reasonAgainst : MethodName := ⟨RX3, "reasonAgainst", "(IIII)I"⟩
abbrev cX3_takeOffer : ByteArray := prog_5_method_16_code
def yX3_takeOffer : MethodName := ⟨RX3, "takeOffer", "(IIII)I"⟩
abbrev cX3_stamp : ByteArray := prog_5_method_17_code
def yX3_stamp : MethodName := ⟨RX3, "stamp", "(IIII)V"⟩
abbrev cX3_refuse : ByteArray := prog_5_method_18_code
def yX3_refuse : MethodName := ⟨RX3, "refuse", "(IIII)V"⟩
abbrev cX3_takeCredit : ByteArray := prog_5_method_19_code
def yX3_takeCredit : MethodName := ⟨RX3, "takeCredit", "(II)V"⟩
abbrev cX3_angerMasterOf : ByteArray := prog_5_method_20_code
def yX3_angerMasterOf : MethodName := ⟨RX3, "angerMasterOf", "(I)V"⟩
abbrev cX3_beginNextTerm : ByteArray := prog_5_method_21_code
def yX3_beginNextTerm : MethodName := ⟨RX3, "beginNextTerm", "()V"⟩
def RX4 : String := "ExcuseTariffs"
def TX4 : u_T := fun k => match k with
  | 0 => ("ExcuseTariffs", "school", "LExcuseTariffs$School;", true)
  | 1 => ("ExcuseTariffs", "history", "LExcuseTariffs$History;", true)
  | 2 => ("ExcuseTariffs", "slots", "[LExcuseTariffs$School;", true)
  | 3 => ("ExcuseTariffs", "saved", "[Z", true)
  | 4 => ("ExcuseTariffs", "pad", "LExcuseTariffs$Pad;", true)
  | _ => ("ExcuseTariffs", "reader", "LExcuseTariffs$Reader;", true)
def tyX4 : Nat → FieldType := fun k => match k with
  | 0 => .object "ExcuseTariffs$School"
  | 1 => .object "ExcuseTariffs$History"
  | 2 => .array (.object "ExcuseTariffs$School")
  | 3 => .array .boolean
  | 4 => .object "ExcuseTariffs$Pad"
  | _ => .object "ExcuseTariffs$Reader"
abbrev wsX40 : List Cond := u_ws RX4 TX4 6
theorem nmX4 : ∀ a, a < 6 → ∀ b, b < 6 → a ≠ b → (TX4 a).2.1 ≠ (TX4 b).2.1 := by decide +kernel
theorem tyX4_ok : ∀ k, k < 6 → parseFieldDescriptor (TX4 k).2.2.1 = some (tyX4 k) := by decide +kernel
abbrev cX4_init : ByteArray := prog_1_method_1_code
def yX4_init : MethodName := ⟨RX4, "<init>", "()V"⟩
abbrev cX4_set : ByteArray := prog_1_method_2_code
def yX4_set : MethodName := ⟨RX4, "set", "(II)I"⟩
abbrev cX4_add : ByteArray := prog_1_method_3_code
def yX4_add : MethodName := ⟨RX4, "add", "(II)I"⟩
abbrev cX4_worth : ByteArray := prog_1_method_4_code
def yX4_worth : MethodName := ⟨RX4, "worth", "(II)I"⟩
abbrev cX4_offer : ByteArray := prog_1_method_5_code
def yX4_offer : MethodName := ⟨RX4, "offer", "(IIII)I"⟩
abbrev cX4_pay : ByteArray := prog_1_method_6_code
def yX4_pay : MethodName := ⟨RX4, "pay", "(II)I"⟩
abbrev cX4_endTerm : ByteArray := prog_1_method_7_code
def yX4_endTerm : MethodName := ⟨RX4, "endTerm", "()I"⟩
abbrev cX4_read : ByteArray := prog_1_method_8_code
def yX4_read : MethodName := ⟨RX4, "read", "()I"⟩
abbrev cX4_excuse : ByteArray := prog_1_method_9_code
def yX4_excuse : MethodName := ⟨RX4, "excuse", "(II)I"⟩
abbrev cX4_pupil : ByteArray := prog_1_method_10_code
def yX4_pupil : MethodName := ⟨RX4, "pupil", "(II)I"⟩
abbrev cX4_novelty : ByteArray := prog_1_method_11_code
def yX4_novelty : MethodName := ⟨RX4, "novelty", "(II)I"⟩
abbrev cX4_why : ByteArray := prog_1_method_12_code
def yX4_why : MethodName := ⟨RX4, "why", "(IIII)I"⟩
abbrev cX4_weight : ByteArray := prog_1_method_13_code
def yX4_weight : MethodName := ⟨RX4, "weight", "(IIII)I"⟩
abbrev cX4_count : ByteArray := prog_1_method_14_code
def yX4_count : MethodName := ⟨RX4, "count", "(I)I"⟩
abbrev cX4_bestExcuse : ByteArray := prog_1_method_15_code
def yX4_bestExcuse : MethodName := ⟨RX4, "bestExcuse", "(II)I"⟩
abbrev cX4_bestWitness : ByteArray := prog_1_method_16_code
def yX4_bestWitness : MethodName := ⟨RX4, "bestWitness", "(III)I"⟩
abbrev cX4_mostMinutes : ByteArray := prog_1_method_17_code
def yX4_mostMinutes : MethodName := ⟨RX4, "mostMinutes", "(II)I"⟩
abbrev cX4_put : ByteArray := prog_1_method_18_code
def yX4_put : MethodName := ⟨RX4, "put", "(J)I"⟩
abbrev cX4_wipe : ByteArray := prog_1_method_19_code
def yX4_wipe : MethodName := ⟨RX4, "wipe", "()I"⟩
abbrev cX4_fault : ByteArray := prog_1_method_20_code
def yX4_fault : MethodName := ⟨RX4, "fault", "()I"⟩
abbrev cX4_undo : ByteArray := prog_1_method_21_code
def yX4_undo : MethodName := ⟨RX4, "undo", "()I"⟩
abbrev cX4_save : ByteArray := prog_1_method_22_code
def yX4_save : MethodName := ⟨RX4, "save", "(I)I"⟩
abbrev cX4_restore : ByteArray := prog_1_method_23_code
def yX4_restore : MethodName := ⟨RX4, "restore", "(I)I"⟩
abbrev cX4_offerError : ByteArray := prog_1_method_24_code
def yX4_offerError : MethodName := ⟨RX4, "offerError", "(IIII)I"⟩
abbrev cX4_stampsForWhatWasRead : ByteArray := prog_1_method_25_code
def yX4_stampsForWhatWasRead : MethodName := ⟨RX4, "stampsForWhatWasRead", "()I"⟩
abbrev cX4_charactersIn : ByteArray := prog_1_method_26_code
def yX4_charactersIn : MethodName := ⟨RX4, "charactersIn", "(J)I"⟩
abbrev cX4_codeAt : ByteArray := prog_1_method_27_code
def yX4_codeAt : MethodName := ⟨RX4, "codeAt", "(JI)I"⟩
abbrev cX4_isPupil : ByteArray := prog_1_method_28_code
def yX4_isPupil : MethodName := ⟨RX4, "isPupil", "(I)Z"⟩
abbrev cX4_isWithin : ByteArray := prog_1_method_29_code
def yX4_isWithin : MethodName := ⟨RX4, "isWithin", "(III)Z"⟩
abbrev cX4_classOf : ByteArray := prog_1_method_30_code
def yX4_classOf : MethodName := ⟨RX4, "classOf", "(I)I"⟩
abbrev cX4_sum : ByteArray := prog_1_method_31_code
def yX4_sum : MethodName := ⟨RX4, "sum", "([I)I"⟩
abbrev cX4_copy : ByteArray := prog_1_method_32_code
def yX4_copy : MethodName := ⟨RX4, "copy", "([I[I)V"⟩
def RX5 : String := "ExcuseTariffsModel"
def TX5 : u_T := fun k => match k with
  | 0 => ("ExcuseTariffsModel", "z", "[I", true)
  | 1 => ("ExcuseTariffsModel", "past", "[I", true)
  | 2 => ("ExcuseTariffsModel", "states", "I", false)
  | 3 => ("ExcuseTariffsModel", "slots", "[I", true)
  | 4 => ("ExcuseTariffsModel", "isSaved", "[Z", true)
  | 5 => ("ExcuseTariffsModel", "pad", "[I", true)
  | 6 => ("ExcuseTariffsModel", "typed", "I", false)
  | 7 => ("ExcuseTariffsModel", "spot", "I", false)
  | 8 => ("ExcuseTariffsModel", "itsPupil", "I", false)
  | 9 => ("ExcuseTariffsModel", "itsExcuse", "I", false)
  | 10 => ("ExcuseTariffsModel", "itsMinutes", "I", false)
  | _ => ("ExcuseTariffsModel", "itsWitness", "I", false)
def tyX5 : Nat → FieldType := fun k => match k with
  | 0 => .array .int
  | 1 => .array .int
  | 2 => .int
  | 3 => .array .int
  | 4 => .array .boolean
  | 5 => .array .int
  | 6 => .int
  | 7 => .int
  | 8 => .int
  | 9 => .int
  | 10 => .int
  | _ => .int
abbrev wsX50 : List Cond := u_ws RX5 TX5 12
theorem nmX5 : ∀ a, a < 12 → ∀ b, b < 12 → a ≠ b → (TX5 a).2.1 ≠ (TX5 b).2.1 := by decide +kernel
theorem tyX5_ok : ∀ k, k < 12 → parseFieldDescriptor (TX5 k).2.2.1 = some (tyX5 k) := by decide +kernel
abbrev cX5_init : ByteArray := prog_7_method_1_code
def yX5_init : MethodName := ⟨RX5, "<init>", "()V"⟩
abbrev cX5_in : ByteArray := prog_7_method_2_code
def yX5_in : MethodName := ⟨RX5, "in", "(III)Z"⟩
abbrev cX5_of : ByteArray := prog_7_method_3_code
def yX5_of : MethodName := ⟨RX5, "of", "(II)I"⟩
abbrev cX5_lay : ByteArray := prog_7_method_4_code
def yX5_lay : MethodName := ⟨RX5, "lay", "(III)V"⟩
abbrev cX5_ofExcuse : ByteArray := prog_7_method_5_code
def yX5_ofExcuse : MethodName := ⟨RX5, "ofExcuse", "(II)I"⟩
abbrev cX5_isExcuse : ByteArray := prog_7_method_6_code
def yX5_isExcuse : MethodName := ⟨RX5, "isExcuse", "(I)Z"⟩
abbrev cX5_isPupil : ByteArray := prog_7_method_7_code
def yX5_isPupil : MethodName := ⟨RX5, "isPupil", "(I)Z"⟩
abbrev cX5_copyState : ByteArray := prog_7_method_8_code
def yX5_copyState : MethodName := ⟨RX5, "copyState", "([II[II)V"⟩
abbrev cX5_record : ByteArray := prog_7_method_9_code
def yX5_record : MethodName := ⟨RX5, "record", "()V"⟩
abbrev cX5_undo : ByteArray := prog_7_method_10_code
def yX5_undo : MethodName := ⟨RX5, "undo", "()I"⟩
abbrev cX5_save : ByteArray := prog_7_method_11_code
def yX5_save : MethodName := ⟨RX5, "save", "(I)I"⟩
abbrev cX5_restore : ByteArray := prog_7_method_12_code
def yX5_restore : MethodName := ⟨RX5, "restore", "(I)I"⟩
abbrev cX5_uses : ByteArray := prog_7_method_13_code
def yX5_uses : MethodName := ⟨RX5, "uses", "(II)I"⟩
abbrev cX5_usesBySchool : ByteArray := prog_7_method_14_code
def yX5_usesBySchool : MethodName := ⟨RX5, "usesBySchool", "(I)I"⟩
abbrev cX5_usesByClass : ByteArray := prog_7_method_15_code
def yX5_usesByClass : MethodName := ⟨RX5, "usesByClass", "(II)I"⟩
abbrev cX5_noveltyOf : ByteArray := prog_7_method_16_code
def yX5_noveltyOf : MethodName := ⟨RX5, "noveltyOf", "(II)I"⟩
abbrev cX5_grudge : ByteArray := prog_7_method_17_code
def yX5_grudge : MethodName := ⟨RX5, "grudge", "(I)I"⟩
abbrev cX5_standsBy : ByteArray := prog_7_method_18_code
def yX5_standsBy : MethodName := ⟨RX5, "standsBy", "(II)I"⟩
abbrev cX5_weightOf : ByteArray := prog_7_method_19_code
def yX5_weightOf : MethodName := ⟨RX5, "weightOf", "(IIII)I"⟩
abbrev cX5_reason : ByteArray := prog_7_method_20_code
def yX5_reason : MethodName := ⟨RX5, "reason", "(IIII)I"⟩
abbrev cX5_isValue : ByteArray := prog_7_method_21_code
def yX5_isValue : MethodName := ⟨RX5, "isValue", "(II)Z"⟩
abbrev cX5_set : ByteArray := prog_7_method_22_code
def yX5_set : MethodName := ⟨RX5, "set", "(II)I"⟩
abbrev cX5_add : ByteArray := prog_7_method_23_code
def yX5_add : MethodName := ⟨RX5, "add", "(II)I"⟩
abbrev cX5_worth : ByteArray := prog_7_method_24_code
def yX5_worth : MethodName := ⟨RX5, "worth", "(II)I"⟩
abbrev cX5_whyNotOffer : ByteArray := prog_7_method_25_code
def yX5_whyNotOffer : MethodName := ⟨RX5, "whyNotOffer", "(IIII)I"⟩
abbrev cX5_angers : ByteArray := prog_7_method_26_code
def yX5_angers : MethodName := ⟨RX5, "angers", "(I)V"⟩
abbrev cX5_loses : ByteArray := prog_7_method_27_code
def yX5_loses : MethodName := ⟨RX5, "loses", "(II)V"⟩
abbrev cX5_offerNow : ByteArray := prog_7_method_28_code
def yX5_offerNow : MethodName := ⟨RX5, "offerNow", "(IIII)I"⟩
abbrev cX5_offer : ByteArray := prog_7_method_29_code
def yX5_offer : MethodName := ⟨RX5, "offer", "(IIII)I"⟩
abbrev cX5_pay : ByteArray := prog_7_method_30_code
def yX5_pay : MethodName := ⟨RX5, "pay", "(II)I"⟩
abbrev cX5_endTerm : ByteArray := prog_7_method_31_code
def yX5_endTerm : MethodName := ⟨RX5, "endTerm", "()I"⟩
abbrev cX5_put : ByteArray := prog_7_method_32_code
def yX5_put : MethodName := ⟨RX5, "put", "(J)I"⟩
abbrev cX5_wipe : ByteArray := prog_7_method_33_code
def yX5_wipe : MethodName := ⟨RX5, "wipe", "()I"⟩
abbrev cX5_sees : ByteArray := prog_7_method_34_code
def yX5_sees : MethodName := ⟨RX5, "sees", "(II)Z"⟩
abbrev cX5_takes : ByteArray := prog_7_method_35_code
def yX5_takes : MethodName := ⟨RX5, "takes", "(I)Z"⟩
abbrev cX5_takesOne : ByteArray := prog_7_method_36_code
def yX5_takesOne : MethodName := ⟨RX5, "takesOne", "(II)I"⟩
abbrev cX5_readMinutes : ByteArray := prog_7_method_37_code
def yX5_readMinutes : MethodName := ⟨RX5, "readMinutes", "()Z"⟩
abbrev cX5_readOffer : ByteArray := prog_7_method_38_code
def yX5_readOffer : MethodName := ⟨RX5, "readOffer", "()Z"⟩
abbrev cX5_readPad : ByteArray := prog_7_method_39_code
def yX5_readPad : MethodName := ⟨RX5, "readPad", "(Z)I"⟩
abbrev cX5_fault : ByteArray := prog_7_method_40_code
def yX5_fault : MethodName := ⟨RX5, "fault", "()I"⟩
abbrev cX5_read : ByteArray := prog_7_method_41_code
def yX5_read : MethodName := ⟨RX5, "read", "()I"⟩
abbrev cX5_users : ByteArray := prog_7_method_42_code
def yX5_users : MethodName := ⟨RX5, "users", "(I)I"⟩
abbrev cX5_excuse : ByteArray := prog_7_method_43_code
def yX5_excuse : MethodName := ⟨RX5, "excuse", "(II)I"⟩
abbrev cX5_usesBy : ByteArray := prog_7_method_44_code
def yX5_usesBy : MethodName := ⟨RX5, "usesBy", "(I)I"⟩
abbrev cX5_pupil : ByteArray := prog_7_method_45_code
def yX5_pupil : MethodName := ⟨RX5, "pupil", "(II)I"⟩
abbrev cX5_novelty : ByteArray := prog_7_method_46_code
def yX5_novelty : MethodName := ⟨RX5, "novelty", "(II)I"⟩
abbrev cX5_why : ByteArray := prog_7_method_47_code
def yX5_why : MethodName := ⟨RX5, "why", "(IIII)I"⟩
abbrev cX5_weight : ByteArray := prog_7_method_48_code
def yX5_weight : MethodName := ⟨RX5, "weight", "(IIII)I"⟩
abbrev cX5_sumOfPupils : ByteArray := prog_7_method_49_code
def yX5_sumOfPupils : MethodName := ⟨RX5, "sumOfPupils", "(I)I"⟩
abbrev cX5_grudges : ByteArray := prog_7_method_50_code
def yX5_grudges : MethodName := ⟨RX5, "grudges", "()I"⟩
abbrev cX5_wornOut : ByteArray := prog_7_method_51_code
def yX5_wornOut : MethodName := ⟨RX5, "wornOut", "()I"⟩
abbrev cX5_count : ByteArray := prog_7_method_52_code
def yX5_count : MethodName := ⟨RX5, "count", "(I)I"⟩
abbrev cX5_bestExcuse : ByteArray := prog_7_method_53_code
def yX5_bestExcuse : MethodName := ⟨RX5, "bestExcuse", "(II)I"⟩
abbrev cX5_bestWitness : ByteArray := prog_7_method_54_code
def yX5_bestWitness : MethodName := ⟨RX5, "bestWitness", "(III)I"⟩
abbrev cX5_mostMinutes : ByteArray := prog_7_method_55_code
def yX5_mostMinutes : MethodName := ⟨RX5, "mostMinutes", "(II)I"⟩
def RJ9 : String := "java/lang/Math"
def TJ9 : u_T := fun k => match k with
  | _ => ("", "", "", false)
def tyJ9 : Nat → FieldType := fun k => match k with
  | _ => .int
abbrev wsJ90 : List Cond := u_ws RJ9 TJ9 0
theorem nmJ9 : ∀ a, a < 0 → ∀ b, b < 0 → a ≠ b → (TJ9 a).2.1 ≠ (TJ9 b).2.1 := by decide +kernel
theorem tyJ9_ok : ∀ k, k < 0 → parseFieldDescriptor (TJ9 k).2.2.1 = some (tyJ9 k) := by decide +kernel
abbrev cJ9_max_7cf53 : ByteArray := prog_8_method_65_code
def yJ9_max_7cf53 : MethodName := ⟨RJ9, "max", "(II)I"⟩
abbrev cJ9_min_7cf53 : ByteArray := prog_8_method_69_code
def yJ9_min_7cf53 : MethodName := ⟨RJ9, "min", "(II)I"⟩
def RJ10 : String := "java/lang/System"
def TJ10 : u_T := fun k => match k with
  | _ => ("", "", "", false)
def tyJ10 : Nat → FieldType := fun k => match k with
  | _ => .int
abbrev wsJ100 : List Cond := u_ws RJ10 TJ10 0
theorem nmJ10 : ∀ a, a < 0 → ∀ b, b < 0 → a ≠ b → (TJ10 a).2.1 ≠ (TJ10 b).2.1 := by decide +kernel
theorem tyJ10_ok : ∀ k, k < 0 → parseFieldDescriptor (TJ10 k).2.2.1 = some (tyJ10 k) := by decide +kernel
def RL : String := "ExcuseTariffsLaw"
abbrev cL_law : ByteArray := code
def yL_law : MethodName := ⟨RL, "law", "([I)Z"⟩
def wsX4_copy : List Cond := .code yX4_copy cX4_copy 2 none :: ([.methodLink RX4 217 Lib.Math.min.name, .static Lib.Math.min.name, .initialized "java/lang/Math", .code Lib.Math.min.name Lib.Math.min.code 2 (some .int), .methodLink RX4 222 arraycopyName, .native arraycopyName, .static arraycopyName, .initialized "java/lang/System"])
def wsX3_init_r1 : List Cond := [Cond.methodLink RX3 3 objectInit, Cond.instanceMethod objectInit, Cond.code objectInit ⟨#[0xb1]⟩ 1 none, Cond.arrayClass .int, Cond.fieldLink RX3 13 "ExcuseTariffs$School" "settings" "[I", Cond.fieldLink RX3 18 "ExcuseTariffs$School" "excuses" "I", Cond.fieldLink RX3 22 "ExcuseTariffs$School" "kinds" "[I", Cond.fieldLink RX3 25 "ExcuseTariffs$School" "worths" "[I", Cond.fieldLink RX3 28 "ExcuseTariffs$School" "usesInAllTerms" "[I", Cond.fieldLink RX3 31 "ExcuseTariffs$School" "uses" "[I", Cond.fieldLink RX3 34 "ExcuseTariffs$School" "credits" "[I", Cond.fieldLink RX3 37 "ExcuseTariffs$School" "fines" "[I", Cond.fieldLink RX3 40 "ExcuseTariffs$School" "paid" "[I", Cond.fieldLink RX3 43 "ExcuseTariffs$School" "stamps" "[I", Cond.fieldLink RX3 46 "ExcuseTariffs$School" "refusals" "[I", Cond.fieldLink RX3 49 "ExcuseTariffs$School" "latestKinds" "[I", Cond.fieldLink RX3 52 "ExcuseTariffs$School" "grudges" "[I", Cond.fieldLink RX3 55 "ExcuseTariffs$School" "refusedFor" "[I", Cond.fieldLink RX3 58 "ExcuseTariffs$School" "termsEnded" "I", Cond.static yX4_copy, Cond.initialized RX4, Cond.code yX4_copy cX4_copy 2 none, Cond.methodLink RX4 217 Lib.Math.min.name, Cond.static Lib.Math.min.name]
def wsX3_init_r2 : List Cond := [Cond.initialized "java/lang/Math", Cond.code Lib.Math.min.name Lib.Math.min.code 2 (some .int), Cond.methodLink RX4 222 arraycopyName, Cond.native arraycopyName, Cond.static arraycopyName, Cond.initialized "java/lang/System"]
def wsX3_init : List Cond := .code yX3_init cX3_init 2 none :: ((wsX3_init_r1 ++ wsX3_init_r2) ++ wsX30)
def wsX0_init_r1 : List Cond := [Cond.methodLink RX0 3 objectInit, Cond.instanceMethod objectInit, Cond.code objectInit ⟨#[0xb1]⟩ 1 none, Cond.classLink RX0 9 RX3, Cond.fieldLink RX0 11 "ExcuseTariffs$History" "states" "[LExcuseTariffs$School;", Cond.fieldLink RX0 17 "ExcuseTariffs$History" "next" "I", Cond.fieldLink RX0 21 "ExcuseTariffs$History" "kept" "I", Cond.instantiable RX3 15, Cond.initialized RX3, Cond.methodLink RX0 24 yX3_init, Cond.instanceMethod yX3_init, Cond.code yX3_init cX3_init 2 none, Cond.methodLink RX3 3 objectInit, Cond.arrayClass .int, Cond.fieldLink RX3 13 "ExcuseTariffs$School" "settings" "[I", Cond.fieldLink RX3 18 "ExcuseTariffs$School" "excuses" "I", Cond.fieldLink RX3 22 "ExcuseTariffs$School" "kinds" "[I", Cond.fieldLink RX3 25 "ExcuseTariffs$School" "worths" "[I", Cond.fieldLink RX3 28 "ExcuseTariffs$School" "usesInAllTerms" "[I", Cond.fieldLink RX3 31 "ExcuseTariffs$School" "uses" "[I", Cond.fieldLink RX3 34 "ExcuseTariffs$School" "credits" "[I", Cond.fieldLink RX3 37 "ExcuseTariffs$School" "fines" "[I", Cond.fieldLink RX3 40 "ExcuseTariffs$School" "paid" "[I", Cond.fieldLink RX3 43 "ExcuseTariffs$School" "stamps" "[I"]
def wsX0_init_r2 : List Cond := [Cond.fieldLink RX3 46 "ExcuseTariffs$School" "refusals" "[I", Cond.fieldLink RX3 49 "ExcuseTariffs$School" "latestKinds" "[I", Cond.fieldLink RX3 52 "ExcuseTariffs$School" "grudges" "[I", Cond.fieldLink RX3 55 "ExcuseTariffs$School" "refusedFor" "[I", Cond.fieldLink RX3 58 "ExcuseTariffs$School" "termsEnded" "I", Cond.static yX4_copy, Cond.initialized RX4, Cond.code yX4_copy cX4_copy 2 none, Cond.methodLink RX4 217 Lib.Math.min.name, Cond.static Lib.Math.min.name, Cond.initialized "java/lang/Math", Cond.code Lib.Math.min.name Lib.Math.min.code 2 (some .int), Cond.methodLink RX4 222 arraycopyName, Cond.native arraycopyName, Cond.static arraycopyName, Cond.initialized "java/lang/System"]
def wsX0_init : List Cond := .code yX0_init cX0_init 2 none :: ((wsX0_init_r1 ++ wsX0_init_r2) ++ wsX00 ++ wsX30)
def wsX3_become_r1 : List Cond := [Cond.fieldLink RX3 13 "ExcuseTariffs$School" "settings" "[I", Cond.fieldLink RX3 18 "ExcuseTariffs$School" "excuses" "I", Cond.fieldLink RX3 22 "ExcuseTariffs$School" "kinds" "[I", Cond.fieldLink RX3 25 "ExcuseTariffs$School" "worths" "[I", Cond.fieldLink RX3 28 "ExcuseTariffs$School" "usesInAllTerms" "[I", Cond.fieldLink RX3 31 "ExcuseTariffs$School" "uses" "[I", Cond.fieldLink RX3 34 "ExcuseTariffs$School" "credits" "[I", Cond.fieldLink RX3 37 "ExcuseTariffs$School" "fines" "[I", Cond.fieldLink RX3 40 "ExcuseTariffs$School" "paid" "[I", Cond.fieldLink RX3 43 "ExcuseTariffs$School" "stamps" "[I", Cond.fieldLink RX3 46 "ExcuseTariffs$School" "refusals" "[I", Cond.fieldLink RX3 49 "ExcuseTariffs$School" "latestKinds" "[I", Cond.fieldLink RX3 52 "ExcuseTariffs$School" "grudges" "[I", Cond.fieldLink RX3 55 "ExcuseTariffs$School" "refusedFor" "[I", Cond.fieldLink RX3 58 "ExcuseTariffs$School" "termsEnded" "I", Cond.static yX4_copy, Cond.initialized RX4, Cond.code yX4_copy cX4_copy 2 none, Cond.methodLink RX4 217 Lib.Math.min.name, Cond.static Lib.Math.min.name, Cond.initialized "java/lang/Math", Cond.code Lib.Math.min.name Lib.Math.min.code 2 (some .int), Cond.methodLink RX4 222 arraycopyName, Cond.native arraycopyName]
def wsX3_become_r2 : List Cond := [Cond.static arraycopyName, Cond.initialized "java/lang/System"]
def wsX3_become : List Cond := .code yX3_become cX3_become 2 none :: ((wsX3_become_r1 ++ wsX3_become_r2) ++ wsX30)
def wsX0_keep_r1 : List Cond := [Cond.fieldLink RX0 11 "ExcuseTariffs$History" "states" "[LExcuseTariffs$School;", Cond.fieldLink RX0 17 "ExcuseTariffs$History" "next" "I", Cond.fieldLink RX0 21 "ExcuseTariffs$History" "kept" "I", Cond.methodLink RX0 29 Lib.Math.min.name, Cond.static Lib.Math.min.name, Cond.initialized "java/lang/Math", Cond.code Lib.Math.min.name Lib.Math.min.code 2 (some .int), Cond.methodLink RX0 25 yX3_become, Cond.instanceMethod yX3_become, Cond.selects RX3 yX3_become yX3_become, Cond.initialized RX3, Cond.code yX3_become cX3_become 2 none, Cond.fieldLink RX3 13 "ExcuseTariffs$School" "settings" "[I", Cond.fieldLink RX3 18 "ExcuseTariffs$School" "excuses" "I", Cond.fieldLink RX3 22 "ExcuseTariffs$School" "kinds" "[I", Cond.fieldLink RX3 25 "ExcuseTariffs$School" "worths" "[I", Cond.fieldLink RX3 28 "ExcuseTariffs$School" "usesInAllTerms" "[I", Cond.fieldLink RX3 31 "ExcuseTariffs$School" "uses" "[I", Cond.fieldLink RX3 34 "ExcuseTariffs$School" "credits" "[I", Cond.fieldLink RX3 37 "ExcuseTariffs$School" "fines" "[I", Cond.fieldLink RX3 40 "ExcuseTariffs$School" "paid" "[I", Cond.fieldLink RX3 43 "ExcuseTariffs$School" "stamps" "[I", Cond.fieldLink RX3 46 "ExcuseTariffs$School" "refusals" "[I", Cond.fieldLink RX3 49 "ExcuseTariffs$School" "latestKinds" "[I"]
def wsX0_keep_r2 : List Cond := [Cond.fieldLink RX3 52 "ExcuseTariffs$School" "grudges" "[I", Cond.fieldLink RX3 55 "ExcuseTariffs$School" "refusedFor" "[I", Cond.fieldLink RX3 58 "ExcuseTariffs$School" "termsEnded" "I", Cond.static yX4_copy, Cond.initialized RX4, Cond.code yX4_copy cX4_copy 2 none, Cond.methodLink RX4 217 Lib.Math.min.name, Cond.methodLink RX4 222 arraycopyName, Cond.native arraycopyName, Cond.static arraycopyName, Cond.initialized "java/lang/System"]
def wsX0_keep : List Cond := .code yX0_keep cX0_keep 2 none :: ((wsX0_keep_r1 ++ wsX0_keep_r2) ++ wsX00 ++ wsX30)
def wsX0_takeBack_r1 : List Cond := [Cond.fieldLink RX0 17 "ExcuseTariffs$History" "next" "I", Cond.fieldLink RX0 21 "ExcuseTariffs$History" "kept" "I", Cond.fieldLink RX0 11 "ExcuseTariffs$History" "states" "[LExcuseTariffs$School;", Cond.methodLink RX0 25 yX3_become, Cond.instanceMethod yX3_become, Cond.selects RX3 yX3_become yX3_become, Cond.initialized RX3, Cond.code yX3_become cX3_become 2 none, Cond.fieldLink RX3 13 "ExcuseTariffs$School" "settings" "[I", Cond.fieldLink RX3 18 "ExcuseTariffs$School" "excuses" "I", Cond.fieldLink RX3 22 "ExcuseTariffs$School" "kinds" "[I", Cond.fieldLink RX3 25 "ExcuseTariffs$School" "worths" "[I", Cond.fieldLink RX3 28 "ExcuseTariffs$School" "usesInAllTerms" "[I", Cond.fieldLink RX3 31 "ExcuseTariffs$School" "uses" "[I", Cond.fieldLink RX3 34 "ExcuseTariffs$School" "credits" "[I", Cond.fieldLink RX3 37 "ExcuseTariffs$School" "fines" "[I", Cond.fieldLink RX3 40 "ExcuseTariffs$School" "paid" "[I", Cond.fieldLink RX3 43 "ExcuseTariffs$School" "stamps" "[I", Cond.fieldLink RX3 46 "ExcuseTariffs$School" "refusals" "[I", Cond.fieldLink RX3 49 "ExcuseTariffs$School" "latestKinds" "[I", Cond.fieldLink RX3 52 "ExcuseTariffs$School" "grudges" "[I", Cond.fieldLink RX3 55 "ExcuseTariffs$School" "refusedFor" "[I", Cond.fieldLink RX3 58 "ExcuseTariffs$School" "termsEnded" "I", Cond.static yX4_copy]
def wsX0_takeBack_r2 : List Cond := [Cond.initialized RX4, Cond.code yX4_copy cX4_copy 2 none, Cond.methodLink RX4 217 Lib.Math.min.name, Cond.static Lib.Math.min.name, Cond.initialized "java/lang/Math", Cond.code Lib.Math.min.name Lib.Math.min.code 2 (some .int), Cond.methodLink RX4 222 arraycopyName, Cond.native arraycopyName, Cond.static arraycopyName, Cond.initialized "java/lang/System"]
def wsX0_takeBack : List Cond := .code yX0_takeBack cX0_takeBack 2 none :: ((wsX0_takeBack_r1 ++ wsX0_takeBack_r2) ++ wsX00 ++ wsX30)
def wsX1_init : List Cond := .code yX1_init cX1_init 1 none :: ([.methodLink RX1 3 objectInit, .instanceMethod objectInit, .code objectInit ⟨#[0xb1]⟩ 1 none, .arrayClass .char, .fieldLink RX1 9 "ExcuseTariffs$Pad" "characters" "[C", .fieldLink RX1 15 "ExcuseTariffs$Pad" "length" "I"] ++ wsX10)
def wsX1_append : List Cond := .code yX1_append cX1_append 2 none :: ([.fieldLink RX1 15 "ExcuseTariffs$Pad" "length" "I", .fieldLink RX1 9 "ExcuseTariffs$Pad" "characters" "[C"] ++ wsX10)
def wsX2_init : List Cond := .code yX2_init cX2_init 1 none :: ([.methodLink RX2 3 objectInit, .instanceMethod objectInit, .code objectInit ⟨#[0xb1]⟩ 1 none, .fieldLink RX2 11 "ExcuseTariffs$Reader" "place" "I", .fieldLink RX2 15 "ExcuseTariffs$Reader" "pupil" "I", .fieldLink RX2 18 "ExcuseTariffs$Reader" "excuse" "I", .fieldLink RX2 21 "ExcuseTariffs$Reader" "minutes" "I", .fieldLink RX2 24 "ExcuseTariffs$Reader" "witness" "I"] ++ wsX20)
def wsX2_begin : List Cond := .code yX2_begin cX2_begin 1 none :: ([.fieldLink RX2 11 "ExcuseTariffs$Reader" "place" "I", .fieldLink RX2 24 "ExcuseTariffs$Reader" "witness" "I"] ++ wsX20)
def wsX4_isWithin : List Cond := .code yX4_isWithin cX4_isWithin 3 (some .boolean) :: ([])
def wsX2_isDigit : List Cond := .code yX2_isDigit cX2_isDigit 1 (some .boolean) :: ([.static yX4_isWithin, .initialized RX4, .code yX4_isWithin cX4_isWithin 3 (some .boolean)])
def wsX2_goesOn : List Cond := .code yX2_goesOn cX2_goesOn 3 (some .boolean) :: ([.fieldLink RX2 11 "ExcuseTariffs$Reader" "place" "I"] ++ wsX20)
def wsX2_takesPupil : List Cond := .code yX2_takesPupil cX2_takesPupil 2 (some .boolean) :: ([.fieldLink RX2 15 "ExcuseTariffs$Reader" "pupil" "I", .methodLink RX2 51 yX2_isDigit, .static yX2_isDigit, .initialized RX2, .code yX2_isDigit cX2_isDigit 1 (some .boolean), .static yX4_isWithin, .initialized RX4, .code yX4_isWithin cX4_isWithin 3 (some .boolean), .methodLink RX2 34 yX2_goesOn, .instanceMethod yX2_goesOn, .selects RX2 yX2_goesOn yX2_goesOn, .code yX2_goesOn cX2_goesOn 3 (some .boolean), .fieldLink RX2 11 "ExcuseTariffs$Reader" "place" "I"] ++ wsX20)
def wsX2_takesExcuse : List Cond := .code yX2_takesExcuse cX2_takesExcuse 3 (some .boolean) :: ([.fieldLink RX2 18 "ExcuseTariffs$Reader" "excuse" "I", .static yX4_isWithin, .initialized RX4, .code yX4_isWithin cX4_isWithin 3 (some .boolean), .methodLink RX2 34 yX2_goesOn, .instanceMethod yX2_goesOn, .selects RX2 yX2_goesOn yX2_goesOn, .initialized RX2, .code yX2_goesOn cX2_goesOn 3 (some .boolean), .fieldLink RX2 11 "ExcuseTariffs$Reader" "place" "I"] ++ wsX20)
def wsX2_takesMinutes : List Cond := .code yX2_takesMinutes cX2_takesMinutes 4 (some .boolean) :: ([.fieldLink RX2 21 "ExcuseTariffs$Reader" "minutes" "I", .methodLink RX2 51 yX2_isDigit, .static yX2_isDigit, .initialized RX2, .code yX2_isDigit cX2_isDigit 1 (some .boolean), .static yX4_isWithin, .initialized RX4, .code yX4_isWithin cX4_isWithin 3 (some .boolean), .methodLink RX2 34 yX2_goesOn, .instanceMethod yX2_goesOn, .selects RX2 yX2_goesOn yX2_goesOn, .code yX2_goesOn cX2_goesOn 3 (some .boolean), .fieldLink RX2 11 "ExcuseTariffs$Reader" "place" "I"] ++ wsX20)
def wsX2_takesComma : List Cond := .code yX2_takesComma cX2_takesComma 2 (some .boolean) :: ([.fieldLink RX2 24 "ExcuseTariffs$Reader" "witness" "I", .methodLink RX2 34 yX2_goesOn, .instanceMethod yX2_goesOn, .selects RX2 yX2_goesOn yX2_goesOn, .initialized RX2, .code yX2_goesOn cX2_goesOn 3 (some .boolean), .fieldLink RX2 11 "ExcuseTariffs$Reader" "place" "I"] ++ wsX20)
def wsX2_takesAfterMinutes : List Cond := .code yX2_takesAfterMinutes cX2_takesAfterMinutes 2 (some .boolean) :: ([.methodLink RX2 34 yX2_goesOn, .instanceMethod yX2_goesOn, .selects RX2 yX2_goesOn yX2_goesOn, .initialized RX2, .code yX2_goesOn cX2_goesOn 3 (some .boolean), .fieldLink RX2 11 "ExcuseTariffs$Reader" "place" "I", .methodLink RX2 48 yX2_takesComma, .instanceMethod yX2_takesComma, .selects RX2 yX2_takesComma yX2_takesComma, .code yX2_takesComma cX2_takesComma 2 (some .boolean), .fieldLink RX2 24 "ExcuseTariffs$Reader" "witness" "I"] ++ wsX20)
def wsX2_takesWitness : List Cond := .code yX2_takesWitness cX2_takesWitness 3 (some .boolean) :: ([.fieldLink RX2 15 "ExcuseTariffs$Reader" "pupil" "I", .fieldLink RX2 24 "ExcuseTariffs$Reader" "witness" "I", .methodLink RX2 51 yX2_isDigit, .static yX2_isDigit, .initialized RX2, .code yX2_isDigit cX2_isDigit 1 (some .boolean), .static yX4_isWithin, .initialized RX4, .code yX4_isWithin cX4_isWithin 3 (some .boolean), .methodLink RX2 34 yX2_goesOn, .instanceMethod yX2_goesOn, .selects RX2 yX2_goesOn yX2_goesOn, .code yX2_goesOn cX2_goesOn 3 (some .boolean), .fieldLink RX2 11 "ExcuseTariffs$Reader" "place" "I"] ++ wsX20)
def wsX2_takes_r1 : List Cond := [Cond.fieldLink RX2 11 "ExcuseTariffs$Reader" "place" "I", Cond.fieldLink RX2 21 "ExcuseTariffs$Reader" "minutes" "I", Cond.methodLink RX2 27 yX2_takesPupil, Cond.instanceMethod yX2_takesPupil, Cond.selects RX2 yX2_takesPupil yX2_takesPupil, Cond.initialized RX2, Cond.code yX2_takesPupil cX2_takesPupil 2 (some .boolean), Cond.fieldLink RX2 15 "ExcuseTariffs$Reader" "pupil" "I", Cond.methodLink RX2 51 yX2_isDigit, Cond.static yX2_isDigit, Cond.code yX2_isDigit cX2_isDigit 1 (some .boolean), Cond.static yX4_isWithin, Cond.initialized RX4, Cond.code yX4_isWithin cX4_isWithin 3 (some .boolean), Cond.methodLink RX2 34 yX2_goesOn, Cond.instanceMethod yX2_goesOn, Cond.selects RX2 yX2_goesOn yX2_goesOn, Cond.code yX2_goesOn cX2_goesOn 3 (some .boolean), Cond.methodLink RX2 31 yX2_takesExcuse, Cond.instanceMethod yX2_takesExcuse, Cond.selects RX2 yX2_takesExcuse yX2_takesExcuse, Cond.code yX2_takesExcuse cX2_takesExcuse 3 (some .boolean), Cond.fieldLink RX2 18 "ExcuseTariffs$Reader" "excuse" "I", Cond.methodLink RX2 38 yX2_takesMinutes]
def wsX2_takes_r2 : List Cond := [Cond.instanceMethod yX2_takesMinutes, Cond.selects RX2 yX2_takesMinutes yX2_takesMinutes, Cond.code yX2_takesMinutes cX2_takesMinutes 4 (some .boolean), Cond.methodLink RX2 42 yX2_takesAfterMinutes, Cond.instanceMethod yX2_takesAfterMinutes, Cond.selects RX2 yX2_takesAfterMinutes yX2_takesAfterMinutes, Cond.code yX2_takesAfterMinutes cX2_takesAfterMinutes 2 (some .boolean), Cond.methodLink RX2 48 yX2_takesComma, Cond.instanceMethod yX2_takesComma, Cond.selects RX2 yX2_takesComma yX2_takesComma, Cond.code yX2_takesComma cX2_takesComma 2 (some .boolean), Cond.fieldLink RX2 24 "ExcuseTariffs$Reader" "witness" "I", Cond.methodLink RX2 45 yX2_takesWitness, Cond.instanceMethod yX2_takesWitness, Cond.selects RX2 yX2_takesWitness yX2_takesWitness, Cond.code yX2_takesWitness cX2_takesWitness 3 (some .boolean)]
def wsX2_takes : List Cond := .code yX2_takes cX2_takes 2 (some .boolean) :: ((wsX2_takes_r1 ++ wsX2_takes_r2) ++ wsX20)
def wsX2_canEnd : List Cond := .code yX2_canEnd cX2_canEnd 1 (some .boolean) :: ([.fieldLink RX2 11 "ExcuseTariffs$Reader" "place" "I"] ++ wsX20)
def wsX3_hasExcuse : List Cond := .code yX3_hasExcuse cX3_hasExcuse 2 (some .boolean) :: ([.fieldLink RX3 18 "ExcuseTariffs$School" "excuses" "I"] ++ wsX30)
def wsX3_addExcuse : List Cond := .code yX3_addExcuse cX3_addExcuse 3 (some .int) :: ([.fieldLink RX3 22 "ExcuseTariffs$School" "kinds" "[I", .fieldLink RX3 18 "ExcuseTariffs$School" "excuses" "I", .fieldLink RX3 25 "ExcuseTariffs$School" "worths" "[I"] ++ wsX30)
def wsX3_usesOf : List Cond := .code yX3_usesOf cX3_usesOf 3 (some .int) :: ([.fieldLink RX3 31 "ExcuseTariffs$School" "uses" "[I"] ++ wsX30)
def wsX3_usesByPupil : List Cond := .code yX3_usesByPupil cX3_usesByPupil 4 (some .int) :: ([.methodLink RX3 65 yX3_usesOf, .instanceMethod yX3_usesOf, .selects RX3 yX3_usesOf yX3_usesOf, .initialized RX3, .code yX3_usesOf cX3_usesOf 3 (some .int), .fieldLink RX3 31 "ExcuseTariffs$School" "uses" "[I"] ++ wsX30)
def wsX3_usesByClass : List Cond := .code yX3_usesByClass cX3_usesByClass 4 (some .int) :: ([.fieldLink RX3 31 "ExcuseTariffs$School" "uses" "[I"] ++ wsX30)
def wsX3_usesBySchool : List Cond := .code yX3_usesBySchool cX3_usesBySchool 4 (some .int) :: ([.fieldLink RX3 31 "ExcuseTariffs$School" "uses" "[I"] ++ wsX30)
def wsX3_usersOf : List Cond := .code yX3_usersOf cX3_usersOf 4 (some .int) :: ([.methodLink RX3 65 yX3_usesOf, .instanceMethod yX3_usesOf, .selects RX3 yX3_usesOf yX3_usesOf, .initialized RX3, .code yX3_usesOf cX3_usesOf 3 (some .int), .fieldLink RX3 31 "ExcuseTariffs$School" "uses" "[I"] ++ wsX30)
def wsX4_classOf : List Cond := .code yX4_classOf cX4_classOf 1 (some .int) :: ([])
def wsX3_noveltyFor : List Cond := .code yX3_noveltyFor cX3_noveltyFor 4 (some .int) :: ([.fieldLink RX3 13 "ExcuseTariffs$School" "settings" "[I", .methodLink RX3 79 Lib.Math.max.name, .static Lib.Math.max.name, .initialized "java/lang/Math", .code Lib.Math.max.name Lib.Math.max.code 2 (some .int), .methodLink RX3 69 yX3_usesBySchool, .instanceMethod yX3_usesBySchool, .selects RX3 yX3_usesBySchool yX3_usesBySchool, .initialized RX3, .code yX3_usesBySchool cX3_usesBySchool 4 (some .int), .fieldLink RX3 31 "ExcuseTariffs$School" "uses" "[I", .static yX4_classOf, .initialized RX4, .code yX4_classOf cX4_classOf 1 (some .int), .methodLink RX3 76 yX3_usesByClass, .instanceMethod yX3_usesByClass, .selects RX3 yX3_usesByClass yX3_usesByClass, .code yX3_usesByClass cX3_usesByClass 4 (some .int)] ++ wsX30)
def wsX3_isWornOut : List Cond := .code yX3_isWornOut cX3_isWornOut 3 (some .boolean) :: ([.methodLink RX3 88 yX3_noveltyFor, .instanceMethod yX3_noveltyFor, .selects RX3 yX3_noveltyFor yX3_noveltyFor, .initialized RX3, .code yX3_noveltyFor cX3_noveltyFor 4 (some .int), .fieldLink RX3 13 "ExcuseTariffs$School" "settings" "[I", .methodLink RX3 79 Lib.Math.max.name, .static Lib.Math.max.name, .initialized "java/lang/Math", .code Lib.Math.max.name Lib.Math.max.code 2 (some .int), .methodLink RX3 69 yX3_usesBySchool, .instanceMethod yX3_usesBySchool, .selects RX3 yX3_usesBySchool yX3_usesBySchool, .code yX3_usesBySchool cX3_usesBySchool 4 (some .int), .fieldLink RX3 31 "ExcuseTariffs$School" "uses" "[I", .static yX4_classOf, .initialized RX4, .code yX4_classOf cX4_classOf 1 (some .int), .methodLink RX3 76 yX3_usesByClass, .instanceMethod yX3_usesByClass, .selects RX3 yX3_usesByClass yX3_usesByClass, .code yX3_usesByClass cX3_usesByClass 4 (some .int)] ++ wsX30)
def wsX3_wornOutExcuses_r1 : List Cond := [Cond.fieldLink RX3 18 "ExcuseTariffs$School" "excuses" "I", Cond.methodLink RX3 84 yX3_isWornOut, Cond.instanceMethod yX3_isWornOut, Cond.selects RX3 yX3_isWornOut yX3_isWornOut, Cond.initialized RX3, Cond.code yX3_isWornOut cX3_isWornOut 3 (some .boolean), Cond.methodLink RX3 88 yX3_noveltyFor, Cond.instanceMethod yX3_noveltyFor, Cond.selects RX3 yX3_noveltyFor yX3_noveltyFor, Cond.code yX3_noveltyFor cX3_noveltyFor 4 (some .int), Cond.fieldLink RX3 13 "ExcuseTariffs$School" "settings" "[I", Cond.methodLink RX3 79 Lib.Math.max.name, Cond.static Lib.Math.max.name, Cond.initialized "java/lang/Math", Cond.code Lib.Math.max.name Lib.Math.max.code 2 (some .int), Cond.methodLink RX3 69 yX3_usesBySchool, Cond.instanceMethod yX3_usesBySchool, Cond.selects RX3 yX3_usesBySchool yX3_usesBySchool, Cond.code yX3_usesBySchool cX3_usesBySchool 4 (some .int), Cond.fieldLink RX3 31 "ExcuseTariffs$School" "uses" "[I", Cond.static yX4_classOf, Cond.initialized RX4, Cond.code yX4_classOf cX4_classOf 1 (some .int), Cond.methodLink RX3 76 yX3_usesByClass]
def wsX3_wornOutExcuses_r2 : List Cond := [Cond.instanceMethod yX3_usesByClass, Cond.selects RX3 yX3_usesByClass yX3_usesByClass, Cond.code yX3_usesByClass cX3_usesByClass 4 (some .int)]
def wsX3_wornOutExcuses : List Cond := .code yX3_wornOutExcuses cX3_wornOutExcuses 3 (some .int) :: ((wsX3_wornOutExcuses_r1 ++ wsX3_wornOutExcuses_r2) ++ wsX30)
def wsX3_standingOf : List Cond := .code yX3_standingOf cX3_standingOf 3 (some .int) :: ([.fieldLink RX3 34 "ExcuseTariffs$School" "credits" "[I", .methodLink RX3 79 Lib.Math.max.name, .static Lib.Math.max.name, .initialized "java/lang/Math", .code Lib.Math.max.name Lib.Math.max.code 2 (some .int), .static yX4_classOf, .initialized RX4, .code yX4_classOf cX4_classOf 1 (some .int)] ++ wsX30)
def wsX3_weightOf_r1 : List Cond := [Cond.fieldLink RX3 25 "ExcuseTariffs$School" "worths" "[I", Cond.fieldLink RX3 13 "ExcuseTariffs$School" "settings" "[I", Cond.fieldLink RX3 52 "ExcuseTariffs$School" "grudges" "[I", Cond.methodLink RX3 88 yX3_noveltyFor, Cond.instanceMethod yX3_noveltyFor, Cond.selects RX3 yX3_noveltyFor yX3_noveltyFor, Cond.initialized RX3, Cond.code yX3_noveltyFor cX3_noveltyFor 4 (some .int), Cond.methodLink RX3 79 Lib.Math.max.name, Cond.static Lib.Math.max.name, Cond.initialized "java/lang/Math", Cond.code Lib.Math.max.name Lib.Math.max.code 2 (some .int), Cond.methodLink RX3 69 yX3_usesBySchool, Cond.instanceMethod yX3_usesBySchool, Cond.selects RX3 yX3_usesBySchool yX3_usesBySchool, Cond.code yX3_usesBySchool cX3_usesBySchool 4 (some .int), Cond.fieldLink RX3 31 "ExcuseTariffs$School" "uses" "[I", Cond.static yX4_classOf, Cond.initialized RX4, Cond.code yX4_classOf cX4_classOf 1 (some .int), Cond.methodLink RX3 76 yX3_usesByClass, Cond.instanceMethod yX3_usesByClass, Cond.selects RX3 yX3_usesByClass yX3_usesByClass, Cond.code yX3_usesByClass cX3_usesByClass 4 (some .int)]
def wsX3_weightOf_r2 : List Cond := [Cond.methodLink RX3 91 yX3_standingOf, Cond.instanceMethod yX3_standingOf, Cond.selects RX3 yX3_standingOf yX3_standingOf, Cond.code yX3_standingOf cX3_standingOf 3 (some .int), Cond.fieldLink RX3 34 "ExcuseTariffs$School" "credits" "[I"]
def wsX3_weightOf : List Cond := .code yX3_weightOf cX3_weightOf 6 (some .int) :: ((wsX3_weightOf_r1 ++ wsX3_weightOf_r2) ++ wsX30)
def wsX3_reasonAgainst_r1 : List Cond := [Cond.fieldLink RX3 13 "ExcuseTariffs$School" "settings" "[I", Cond.fieldLink RX3 49 "ExcuseTariffs$School" "latestKinds" "[I", Cond.fieldLink RX3 22 "ExcuseTariffs$School" "kinds" "[I", Cond.fieldLink RX3 34 "ExcuseTariffs$School" "credits" "[I", Cond.methodLink RX3 65 yX3_usesOf, Cond.instanceMethod yX3_usesOf, Cond.selects RX3 yX3_usesOf yX3_usesOf, Cond.initialized RX3, Cond.code yX3_usesOf cX3_usesOf 3 (some .int), Cond.fieldLink RX3 31 "ExcuseTariffs$School" "uses" "[I", Cond.methodLink RX3 94 yX3_weightOf, Cond.instanceMethod yX3_weightOf, Cond.selects RX3 yX3_weightOf yX3_weightOf, Cond.code yX3_weightOf cX3_weightOf 6 (some .int), Cond.fieldLink RX3 25 "ExcuseTariffs$School" "worths" "[I", Cond.fieldLink RX3 52 "ExcuseTariffs$School" "grudges" "[I", Cond.methodLink RX3 88 yX3_noveltyFor, Cond.instanceMethod yX3_noveltyFor, Cond.selects RX3 yX3_noveltyFor yX3_noveltyFor, Cond.code yX3_noveltyFor cX3_noveltyFor 4 (some .int), Cond.methodLink RX3 79 Lib.Math.max.name, Cond.static Lib.Math.max.name, Cond.initialized "java/lang/Math", Cond.code Lib.Math.max.name Lib.Math.max.code 2 (some .int)]
def wsX3_reasonAgainst_r2 : List Cond := [Cond.methodLink RX3 69 yX3_usesBySchool, Cond.instanceMethod yX3_usesBySchool, Cond.selects RX3 yX3_usesBySchool yX3_usesBySchool, Cond.code yX3_usesBySchool cX3_usesBySchool 4 (some .int), Cond.static yX4_classOf, Cond.initialized RX4, Cond.code yX4_classOf cX4_classOf 1 (some .int), Cond.methodLink RX3 76 yX3_usesByClass, Cond.instanceMethod yX3_usesByClass, Cond.selects RX3 yX3_usesByClass yX3_usesByClass, Cond.code yX3_usesByClass cX3_usesByClass 4 (some .int), Cond.methodLink RX3 91 yX3_standingOf, Cond.instanceMethod yX3_standingOf, Cond.selects RX3 yX3_standingOf yX3_standingOf, Cond.code yX3_standingOf cX3_standingOf 3 (some .int)]
def wsX3_reasonAgainst : List Cond := .code yX3_reasonAgainst cX3_reasonAgainst 5 (some .int) :: ((wsX3_reasonAgainst_r1 ++ wsX3_reasonAgainst_r2) ++ wsX30)
def wsX3_takeCredit : List Cond := .code yX3_takeCredit cX3_takeCredit 3 none :: ([.fieldLink RX3 34 "ExcuseTariffs$School" "credits" "[I", .methodLink RX3 79 Lib.Math.max.name, .static Lib.Math.max.name, .initialized "java/lang/Math", .code Lib.Math.max.name Lib.Math.max.code 2 (some .int)] ++ wsX30)
def wsX3_angerMasterOf : List Cond := .code yX3_angerMasterOf cX3_angerMasterOf 3 none :: ([.fieldLink RX3 52 "ExcuseTariffs$School" "grudges" "[I", .methodLink RX3 116 Lib.Math.min.name, .static Lib.Math.min.name, .initialized "java/lang/Math", .code Lib.Math.min.name Lib.Math.min.code 2 (some .int), .static yX4_classOf, .initialized RX4, .code yX4_classOf cX4_classOf 1 (some .int)] ++ wsX30)
def wsX3_stamp : List Cond := .code yX3_stamp cX3_stamp 5 none :: ([.fieldLink RX3 31 "ExcuseTariffs$School" "uses" "[I", .fieldLink RX3 28 "ExcuseTariffs$School" "usesInAllTerms" "[I", .fieldLink RX3 43 "ExcuseTariffs$School" "stamps" "[I", .methodLink RX3 108 yX3_takeCredit, .instanceMethod yX3_takeCredit, .selects RX3 yX3_takeCredit yX3_takeCredit, .initialized RX3, .code yX3_takeCredit cX3_takeCredit 3 none, .fieldLink RX3 34 "ExcuseTariffs$School" "credits" "[I", .methodLink RX3 79 Lib.Math.max.name, .static Lib.Math.max.name, .initialized "java/lang/Math", .code Lib.Math.max.name Lib.Math.max.code 2 (some .int), .methodLink RX3 112 yX3_angerMasterOf, .instanceMethod yX3_angerMasterOf, .selects RX3 yX3_angerMasterOf yX3_angerMasterOf, .code yX3_angerMasterOf cX3_angerMasterOf 3 none, .fieldLink RX3 52 "ExcuseTariffs$School" "grudges" "[I", .methodLink RX3 116 Lib.Math.min.name, .static Lib.Math.min.name, .code Lib.Math.min.name Lib.Math.min.code 2 (some .int), .static yX4_classOf, .initialized RX4, .code yX4_classOf cX4_classOf 1 (some .int)] ++ wsX30)
def wsX3_refuse_r1 : List Cond := [Cond.fieldLink RX3 37 "ExcuseTariffs$School" "fines" "[I", Cond.fieldLink RX3 13 "ExcuseTariffs$School" "settings" "[I", Cond.fieldLink RX3 46 "ExcuseTariffs$School" "refusals" "[I", Cond.fieldLink RX3 55 "ExcuseTariffs$School" "refusedFor" "[I", Cond.methodLink RX3 112 yX3_angerMasterOf, Cond.instanceMethod yX3_angerMasterOf, Cond.selects RX3 yX3_angerMasterOf yX3_angerMasterOf, Cond.initialized RX3, Cond.code yX3_angerMasterOf cX3_angerMasterOf 3 none, Cond.fieldLink RX3 52 "ExcuseTariffs$School" "grudges" "[I", Cond.methodLink RX3 116 Lib.Math.min.name, Cond.static Lib.Math.min.name, Cond.initialized "java/lang/Math", Cond.code Lib.Math.min.name Lib.Math.min.code 2 (some .int), Cond.static yX4_classOf, Cond.initialized RX4, Cond.code yX4_classOf cX4_classOf 1 (some .int), Cond.methodLink RX3 108 yX3_takeCredit, Cond.instanceMethod yX3_takeCredit, Cond.selects RX3 yX3_takeCredit yX3_takeCredit, Cond.code yX3_takeCredit cX3_takeCredit 3 none, Cond.fieldLink RX3 34 "ExcuseTariffs$School" "credits" "[I", Cond.methodLink RX3 79 Lib.Math.max.name, Cond.static Lib.Math.max.name]
def wsX3_refuse_r2 : List Cond := [Cond.code Lib.Math.max.name Lib.Math.max.code 2 (some .int)]
def wsX3_refuse : List Cond := .code yX3_refuse cX3_refuse 5 none :: ((wsX3_refuse_r1 ++ wsX3_refuse_r2) ++ wsX30)
def wsX3_takeOffer_r1 : List Cond := [Cond.fieldLink RX3 49 "ExcuseTariffs$School" "latestKinds" "[I", Cond.fieldLink RX3 22 "ExcuseTariffs$School" "kinds" "[I", Cond.methodLink RX3 98 yX3_reasonAgainst, Cond.instanceMethod yX3_reasonAgainst, Cond.selects RX3 yX3_reasonAgainst yX3_reasonAgainst, Cond.initialized RX3, Cond.code yX3_reasonAgainst cX3_reasonAgainst 5 (some .int), Cond.fieldLink RX3 13 "ExcuseTariffs$School" "settings" "[I", Cond.fieldLink RX3 34 "ExcuseTariffs$School" "credits" "[I", Cond.methodLink RX3 65 yX3_usesOf, Cond.instanceMethod yX3_usesOf, Cond.selects RX3 yX3_usesOf yX3_usesOf, Cond.code yX3_usesOf cX3_usesOf 3 (some .int), Cond.fieldLink RX3 31 "ExcuseTariffs$School" "uses" "[I", Cond.methodLink RX3 94 yX3_weightOf, Cond.instanceMethod yX3_weightOf, Cond.selects RX3 yX3_weightOf yX3_weightOf, Cond.code yX3_weightOf cX3_weightOf 6 (some .int), Cond.fieldLink RX3 25 "ExcuseTariffs$School" "worths" "[I", Cond.fieldLink RX3 52 "ExcuseTariffs$School" "grudges" "[I", Cond.methodLink RX3 88 yX3_noveltyFor, Cond.instanceMethod yX3_noveltyFor, Cond.selects RX3 yX3_noveltyFor yX3_noveltyFor, Cond.code yX3_noveltyFor cX3_noveltyFor 4 (some .int)]
def wsX3_takeOffer_r2 : List Cond := [Cond.methodLink RX3 79 Lib.Math.max.name, Cond.static Lib.Math.max.name, Cond.initialized "java/lang/Math", Cond.code Lib.Math.max.name Lib.Math.max.code 2 (some .int), Cond.methodLink RX3 69 yX3_usesBySchool, Cond.instanceMethod yX3_usesBySchool, Cond.selects RX3 yX3_usesBySchool yX3_usesBySchool, Cond.code yX3_usesBySchool cX3_usesBySchool 4 (some .int), Cond.static yX4_classOf, Cond.initialized RX4, Cond.code yX4_classOf cX4_classOf 1 (some .int), Cond.methodLink RX3 76 yX3_usesByClass, Cond.instanceMethod yX3_usesByClass, Cond.selects RX3 yX3_usesByClass yX3_usesByClass, Cond.code yX3_usesByClass cX3_usesByClass 4 (some .int), Cond.methodLink RX3 91 yX3_standingOf, Cond.instanceMethod yX3_standingOf, Cond.selects RX3 yX3_standingOf yX3_standingOf, Cond.code yX3_standingOf cX3_standingOf 3 (some .int), Cond.methodLink RX3 101 yX3_stamp, Cond.instanceMethod yX3_stamp, Cond.selects RX3 yX3_stamp yX3_stamp, Cond.code yX3_stamp cX3_stamp 5 none, Cond.fieldLink RX3 28 "ExcuseTariffs$School" "usesInAllTerms" "[I"]
def wsX3_takeOffer_r3 : List Cond := [Cond.fieldLink RX3 43 "ExcuseTariffs$School" "stamps" "[I", Cond.methodLink RX3 108 yX3_takeCredit, Cond.instanceMethod yX3_takeCredit, Cond.selects RX3 yX3_takeCredit yX3_takeCredit, Cond.code yX3_takeCredit cX3_takeCredit 3 none, Cond.methodLink RX3 112 yX3_angerMasterOf, Cond.instanceMethod yX3_angerMasterOf, Cond.selects RX3 yX3_angerMasterOf yX3_angerMasterOf, Cond.code yX3_angerMasterOf cX3_angerMasterOf 3 none, Cond.methodLink RX3 116 Lib.Math.min.name, Cond.static Lib.Math.min.name, Cond.code Lib.Math.min.name Lib.Math.min.code 2 (some .int), Cond.methodLink RX3 105 yX3_refuse, Cond.instanceMethod yX3_refuse, Cond.selects RX3 yX3_refuse yX3_refuse, Cond.code yX3_refuse cX3_refuse 5 none, Cond.fieldLink RX3 37 "ExcuseTariffs$School" "fines" "[I", Cond.fieldLink RX3 46 "ExcuseTariffs$School" "refusals" "[I", Cond.fieldLink RX3 55 "ExcuseTariffs$School" "refusedFor" "[I"]
def wsX3_takeOffer : List Cond := .code yX3_takeOffer cX3_takeOffer 6 (some .int) :: ((wsX3_takeOffer_r1 ++ (wsX3_takeOffer_r2 ++ wsX3_takeOffer_r3)) ++ wsX30)
def wsX3_beginNextTerm : List Cond := .code yX3_beginNextTerm cX3_beginNextTerm 2 none :: ([.fieldLink RX3 31 "ExcuseTariffs$School" "uses" "[I", .fieldLink RX3 49 "ExcuseTariffs$School" "latestKinds" "[I", .fieldLink RX3 34 "ExcuseTariffs$School" "credits" "[I", .methodLink RX3 116 Lib.Math.min.name, .static Lib.Math.min.name, .initialized "java/lang/Math", .code Lib.Math.min.name Lib.Math.min.code 2 (some .int), .fieldLink RX3 52 "ExcuseTariffs$School" "grudges" "[I", .fieldLink RX3 58 "ExcuseTariffs$School" "termsEnded" "I"] ++ wsX30)
def wsX4_init_r1 : List Cond := [Cond.methodLink RX4 1 objectInit, Cond.instanceMethod objectInit, Cond.code objectInit ⟨#[0xb1]⟩ 1 none, Cond.classLink RX4 7 RX3, Cond.instantiable RX3 15, Cond.initialized RX3, Cond.fieldLink RX4 10 "ExcuseTariffs" "school" "LExcuseTariffs$School;", Cond.classLink RX4 16 RX0, Cond.instantiable RX0 3, Cond.initialized RX0, Cond.fieldLink RX4 19 "ExcuseTariffs" "history" "LExcuseTariffs$History;", Cond.fieldLink RX4 23 "ExcuseTariffs" "slots" "[LExcuseTariffs$School;", Cond.arrayClass .boolean, Cond.fieldLink RX4 27 "ExcuseTariffs" "saved" "[Z", Cond.classLink RX4 31 RX1, Cond.instantiable RX1 2, Cond.initialized RX1, Cond.fieldLink RX4 34 "ExcuseTariffs" "pad" "LExcuseTariffs$Pad;", Cond.classLink RX4 38 RX2, Cond.instantiable RX2 5, Cond.initialized RX2, Cond.fieldLink RX4 41 "ExcuseTariffs" "reader" "LExcuseTariffs$Reader;", Cond.methodLink RX4 9 yX3_init, Cond.instanceMethod yX3_init]
def wsX4_init_r2 : List Cond := [Cond.code yX3_init cX3_init 2 none, Cond.methodLink RX3 3 objectInit, Cond.arrayClass .int, Cond.fieldLink RX3 13 "ExcuseTariffs$School" "settings" "[I", Cond.fieldLink RX3 18 "ExcuseTariffs$School" "excuses" "I", Cond.fieldLink RX3 22 "ExcuseTariffs$School" "kinds" "[I", Cond.fieldLink RX3 25 "ExcuseTariffs$School" "worths" "[I", Cond.fieldLink RX3 28 "ExcuseTariffs$School" "usesInAllTerms" "[I", Cond.fieldLink RX3 31 "ExcuseTariffs$School" "uses" "[I", Cond.fieldLink RX3 34 "ExcuseTariffs$School" "credits" "[I", Cond.fieldLink RX3 37 "ExcuseTariffs$School" "fines" "[I", Cond.fieldLink RX3 40 "ExcuseTariffs$School" "paid" "[I", Cond.fieldLink RX3 43 "ExcuseTariffs$School" "stamps" "[I", Cond.fieldLink RX3 46 "ExcuseTariffs$School" "refusals" "[I", Cond.fieldLink RX3 49 "ExcuseTariffs$School" "latestKinds" "[I", Cond.fieldLink RX3 52 "ExcuseTariffs$School" "grudges" "[I", Cond.fieldLink RX3 55 "ExcuseTariffs$School" "refusedFor" "[I", Cond.fieldLink RX3 58 "ExcuseTariffs$School" "termsEnded" "I", Cond.static yX4_copy, Cond.initialized RX4, Cond.code yX4_copy cX4_copy 2 none, Cond.methodLink RX4 217 Lib.Math.min.name, Cond.static Lib.Math.min.name, Cond.initialized "java/lang/Math"]
def wsX4_init_r3 : List Cond := [Cond.code Lib.Math.min.name Lib.Math.min.code 2 (some .int), Cond.methodLink RX4 222 arraycopyName, Cond.native arraycopyName, Cond.static arraycopyName, Cond.initialized "java/lang/System", Cond.methodLink RX4 18 yX0_init, Cond.instanceMethod yX0_init, Cond.code yX0_init cX0_init 2 none, Cond.methodLink RX0 3 objectInit, Cond.classLink RX0 9 RX3, Cond.fieldLink RX0 11 "ExcuseTariffs$History" "states" "[LExcuseTariffs$School;", Cond.fieldLink RX0 17 "ExcuseTariffs$History" "next" "I", Cond.fieldLink RX0 21 "ExcuseTariffs$History" "kept" "I", Cond.methodLink RX0 24 yX3_init, Cond.instanceMethod yX1_init, Cond.code yX1_init cX1_init 1 none, Cond.methodLink RX1 3 objectInit, Cond.arrayClass .char, Cond.fieldLink RX1 9 "ExcuseTariffs$Pad" "characters" "[C", Cond.fieldLink RX1 15 "ExcuseTariffs$Pad" "length" "I", Cond.instanceMethod yX2_init, Cond.code yX2_init cX2_init 1 none, Cond.methodLink RX2 3 objectInit, Cond.fieldLink RX2 11 "ExcuseTariffs$Reader" "place" "I"]
def wsX4_init_r4 : List Cond := [Cond.fieldLink RX2 15 "ExcuseTariffs$Reader" "pupil" "I", Cond.fieldLink RX2 18 "ExcuseTariffs$Reader" "excuse" "I", Cond.fieldLink RX2 21 "ExcuseTariffs$Reader" "minutes" "I", Cond.fieldLink RX2 24 "ExcuseTariffs$Reader" "witness" "I"]
def wsX4_init : List Cond := .code yX4_init cX4_init 2 none :: ((wsX4_init_r1 ++ (wsX4_init_r2 ++ (wsX4_init_r3 ++ wsX4_init_r4))) ++ wsX30 ++ wsX40 ++ wsX00 ++ wsX10 ++ wsX20)
def wsX4_set_r1 : List Cond := [Cond.fieldLink RX4 45 "ExcuseTariffs" "FIRST_SETTINGS" "[I", Cond.fieldLink RX4 53 "ExcuseTariffs" "LEAST_SETTINGS" "[I", Cond.fieldLink RX4 56 "ExcuseTariffs" "MOST_SETTINGS" "[I", Cond.fieldLink RX4 19 "ExcuseTariffs" "history" "LExcuseTariffs$History;", Cond.fieldLink RX4 10 "ExcuseTariffs" "school" "LExcuseTariffs$School;", Cond.fieldLink RX4 63 "ExcuseTariffs$School" "settings" "[I", Cond.methodLink RX4 49 yX4_isWithin, Cond.static yX4_isWithin, Cond.initialized RX4, Cond.code yX4_isWithin cX4_isWithin 3 (some .boolean), Cond.methodLink RX4 59 yX0_keep, Cond.instanceMethod yX0_keep, Cond.selects RX0 yX0_keep yX0_keep, Cond.initialized RX0, Cond.code yX0_keep cX0_keep 2 none, Cond.fieldLink RX0 11 "ExcuseTariffs$History" "states" "[LExcuseTariffs$School;", Cond.fieldLink RX0 17 "ExcuseTariffs$History" "next" "I", Cond.fieldLink RX0 21 "ExcuseTariffs$History" "kept" "I", Cond.methodLink RX0 29 Lib.Math.min.name, Cond.static Lib.Math.min.name, Cond.initialized "java/lang/Math", Cond.code Lib.Math.min.name Lib.Math.min.code 2 (some .int), Cond.methodLink RX0 25 yX3_become, Cond.instanceMethod yX3_become]
def wsX4_set_r2 : List Cond := [Cond.selects RX3 yX3_become yX3_become, Cond.initialized RX3, Cond.code yX3_become cX3_become 2 none, Cond.fieldLink RX3 13 "ExcuseTariffs$School" "settings" "[I", Cond.fieldLink RX3 18 "ExcuseTariffs$School" "excuses" "I", Cond.fieldLink RX3 22 "ExcuseTariffs$School" "kinds" "[I", Cond.fieldLink RX3 25 "ExcuseTariffs$School" "worths" "[I", Cond.fieldLink RX3 28 "ExcuseTariffs$School" "usesInAllTerms" "[I", Cond.fieldLink RX3 31 "ExcuseTariffs$School" "uses" "[I", Cond.fieldLink RX3 34 "ExcuseTariffs$School" "credits" "[I", Cond.fieldLink RX3 37 "ExcuseTariffs$School" "fines" "[I", Cond.fieldLink RX3 40 "ExcuseTariffs$School" "paid" "[I", Cond.fieldLink RX3 43 "ExcuseTariffs$School" "stamps" "[I", Cond.fieldLink RX3 46 "ExcuseTariffs$School" "refusals" "[I", Cond.fieldLink RX3 49 "ExcuseTariffs$School" "latestKinds" "[I", Cond.fieldLink RX3 52 "ExcuseTariffs$School" "grudges" "[I", Cond.fieldLink RX3 55 "ExcuseTariffs$School" "refusedFor" "[I", Cond.fieldLink RX3 58 "ExcuseTariffs$School" "termsEnded" "I", Cond.static yX4_copy, Cond.code yX4_copy cX4_copy 2 none, Cond.methodLink RX4 217 Lib.Math.min.name, Cond.methodLink RX4 222 arraycopyName, Cond.native arraycopyName, Cond.static arraycopyName]
def wsX4_set_r3 : List Cond := [Cond.initialized "java/lang/System"]
def wsX4_set : List Cond := .code yX4_set cX4_set 4 (some .int) :: ((wsX4_set_r1 ++ (wsX4_set_r2 ++ wsX4_set_r3)) ++ wsX40 ++ wsX30 ++ wsX00)
def wsX4_add_r1 : List Cond := [Cond.fieldLink RX4 10 "ExcuseTariffs" "school" "LExcuseTariffs$School;", Cond.fieldLink RX4 66 "ExcuseTariffs$School" "excuses" "I", Cond.fieldLink RX4 19 "ExcuseTariffs" "history" "LExcuseTariffs$History;", Cond.methodLink RX4 49 yX4_isWithin, Cond.static yX4_isWithin, Cond.initialized RX4, Cond.code yX4_isWithin cX4_isWithin 3 (some .boolean), Cond.methodLink RX4 59 yX0_keep, Cond.instanceMethod yX0_keep, Cond.selects RX0 yX0_keep yX0_keep, Cond.initialized RX0, Cond.code yX0_keep cX0_keep 2 none, Cond.fieldLink RX0 11 "ExcuseTariffs$History" "states" "[LExcuseTariffs$School;", Cond.fieldLink RX0 17 "ExcuseTariffs$History" "next" "I", Cond.fieldLink RX0 21 "ExcuseTariffs$History" "kept" "I", Cond.methodLink RX0 29 Lib.Math.min.name, Cond.static Lib.Math.min.name, Cond.initialized "java/lang/Math", Cond.code Lib.Math.min.name Lib.Math.min.code 2 (some .int), Cond.methodLink RX0 25 yX3_become, Cond.instanceMethod yX3_become, Cond.selects RX3 yX3_become yX3_become, Cond.initialized RX3, Cond.code yX3_become cX3_become 2 none]
def wsX4_add_r2 : List Cond := [Cond.fieldLink RX3 13 "ExcuseTariffs$School" "settings" "[I", Cond.fieldLink RX3 18 "ExcuseTariffs$School" "excuses" "I", Cond.fieldLink RX3 22 "ExcuseTariffs$School" "kinds" "[I", Cond.fieldLink RX3 25 "ExcuseTariffs$School" "worths" "[I", Cond.fieldLink RX3 28 "ExcuseTariffs$School" "usesInAllTerms" "[I", Cond.fieldLink RX3 31 "ExcuseTariffs$School" "uses" "[I", Cond.fieldLink RX3 34 "ExcuseTariffs$School" "credits" "[I", Cond.fieldLink RX3 37 "ExcuseTariffs$School" "fines" "[I", Cond.fieldLink RX3 40 "ExcuseTariffs$School" "paid" "[I", Cond.fieldLink RX3 43 "ExcuseTariffs$School" "stamps" "[I", Cond.fieldLink RX3 46 "ExcuseTariffs$School" "refusals" "[I", Cond.fieldLink RX3 49 "ExcuseTariffs$School" "latestKinds" "[I", Cond.fieldLink RX3 52 "ExcuseTariffs$School" "grudges" "[I", Cond.fieldLink RX3 55 "ExcuseTariffs$School" "refusedFor" "[I", Cond.fieldLink RX3 58 "ExcuseTariffs$School" "termsEnded" "I", Cond.static yX4_copy, Cond.code yX4_copy cX4_copy 2 none, Cond.methodLink RX4 217 Lib.Math.min.name, Cond.methodLink RX4 222 arraycopyName, Cond.native arraycopyName, Cond.static arraycopyName, Cond.initialized "java/lang/System", Cond.methodLink RX4 70 yX3_addExcuse, Cond.instanceMethod yX3_addExcuse]
def wsX4_add_r3 : List Cond := [Cond.selects RX3 yX3_addExcuse yX3_addExcuse, Cond.code yX3_addExcuse cX3_addExcuse 3 (some .int)]
def wsX4_add : List Cond := .code yX4_add cX4_add 3 (some .int) :: ((wsX4_add_r1 ++ (wsX4_add_r2 ++ wsX4_add_r3)) ++ wsX40 ++ wsX30 ++ wsX00)
def wsX4_worth_r1 : List Cond := [Cond.fieldLink RX4 10 "ExcuseTariffs" "school" "LExcuseTariffs$School;", Cond.fieldLink RX4 19 "ExcuseTariffs" "history" "LExcuseTariffs$History;", Cond.fieldLink RX4 78 "ExcuseTariffs$School" "worths" "[I", Cond.methodLink RX4 74 yX3_hasExcuse, Cond.instanceMethod yX3_hasExcuse, Cond.selects RX3 yX3_hasExcuse yX3_hasExcuse, Cond.initialized RX3, Cond.code yX3_hasExcuse cX3_hasExcuse 2 (some .boolean), Cond.fieldLink RX3 18 "ExcuseTariffs$School" "excuses" "I", Cond.methodLink RX4 49 yX4_isWithin, Cond.static yX4_isWithin, Cond.initialized RX4, Cond.code yX4_isWithin cX4_isWithin 3 (some .boolean), Cond.methodLink RX4 59 yX0_keep, Cond.instanceMethod yX0_keep, Cond.selects RX0 yX0_keep yX0_keep, Cond.initialized RX0, Cond.code yX0_keep cX0_keep 2 none, Cond.fieldLink RX0 11 "ExcuseTariffs$History" "states" "[LExcuseTariffs$School;", Cond.fieldLink RX0 17 "ExcuseTariffs$History" "next" "I", Cond.fieldLink RX0 21 "ExcuseTariffs$History" "kept" "I", Cond.methodLink RX0 29 Lib.Math.min.name, Cond.static Lib.Math.min.name, Cond.initialized "java/lang/Math"]
def wsX4_worth_r2 : List Cond := [Cond.code Lib.Math.min.name Lib.Math.min.code 2 (some .int), Cond.methodLink RX0 25 yX3_become, Cond.instanceMethod yX3_become, Cond.selects RX3 yX3_become yX3_become, Cond.code yX3_become cX3_become 2 none, Cond.fieldLink RX3 13 "ExcuseTariffs$School" "settings" "[I", Cond.fieldLink RX3 22 "ExcuseTariffs$School" "kinds" "[I", Cond.fieldLink RX3 25 "ExcuseTariffs$School" "worths" "[I", Cond.fieldLink RX3 28 "ExcuseTariffs$School" "usesInAllTerms" "[I", Cond.fieldLink RX3 31 "ExcuseTariffs$School" "uses" "[I", Cond.fieldLink RX3 34 "ExcuseTariffs$School" "credits" "[I", Cond.fieldLink RX3 37 "ExcuseTariffs$School" "fines" "[I", Cond.fieldLink RX3 40 "ExcuseTariffs$School" "paid" "[I", Cond.fieldLink RX3 43 "ExcuseTariffs$School" "stamps" "[I", Cond.fieldLink RX3 46 "ExcuseTariffs$School" "refusals" "[I", Cond.fieldLink RX3 49 "ExcuseTariffs$School" "latestKinds" "[I", Cond.fieldLink RX3 52 "ExcuseTariffs$School" "grudges" "[I", Cond.fieldLink RX3 55 "ExcuseTariffs$School" "refusedFor" "[I", Cond.fieldLink RX3 58 "ExcuseTariffs$School" "termsEnded" "I", Cond.static yX4_copy, Cond.code yX4_copy cX4_copy 2 none, Cond.methodLink RX4 217 Lib.Math.min.name, Cond.methodLink RX4 222 arraycopyName, Cond.native arraycopyName]
def wsX4_worth_r3 : List Cond := [Cond.static arraycopyName, Cond.initialized "java/lang/System"]
def wsX4_worth : List Cond := .code yX4_worth cX4_worth 4 (some .int) :: ((wsX4_worth_r1 ++ (wsX4_worth_r2 ++ wsX4_worth_r3)) ++ wsX40 ++ wsX30 ++ wsX00)
def wsX4_isPupil : List Cond := .code yX4_isPupil cX4_isPupil 1 (some .boolean) :: ([.methodLink RX4 49 yX4_isWithin, .static yX4_isWithin, .initialized RX4, .code yX4_isWithin cX4_isWithin 3 (some .boolean)])
def wsX4_offerError : List Cond := .code yX4_offerError cX4_offerError 5 (some .int) :: ([.fieldLink RX4 10 "ExcuseTariffs" "school" "LExcuseTariffs$School;", .methodLink RX4 88 yX4_isPupil, .static yX4_isPupil, .initialized RX4, .code yX4_isPupil cX4_isPupil 1 (some .boolean), .methodLink RX4 49 yX4_isWithin, .static yX4_isWithin, .code yX4_isWithin cX4_isWithin 3 (some .boolean), .methodLink RX4 74 yX3_hasExcuse, .instanceMethod yX3_hasExcuse, .selects RX3 yX3_hasExcuse yX3_hasExcuse, .initialized RX3, .code yX3_hasExcuse cX3_hasExcuse 2 (some .boolean), .fieldLink RX3 18 "ExcuseTariffs$School" "excuses" "I"] ++ wsX40 ++ wsX30)
def wsX4_offer_r1 : List Cond := [Cond.fieldLink RX4 19 "ExcuseTariffs" "history" "LExcuseTariffs$History;", Cond.fieldLink RX4 10 "ExcuseTariffs" "school" "LExcuseTariffs$School;", Cond.methodLink RX4 81 yX4_offerError, Cond.instanceMethod yX4_offerError, Cond.selects RX4 yX4_offerError yX4_offerError, Cond.initialized RX4, Cond.code yX4_offerError cX4_offerError 5 (some .int), Cond.methodLink RX4 88 yX4_isPupil, Cond.static yX4_isPupil, Cond.code yX4_isPupil cX4_isPupil 1 (some .boolean), Cond.methodLink RX4 49 yX4_isWithin, Cond.static yX4_isWithin, Cond.code yX4_isWithin cX4_isWithin 3 (some .boolean), Cond.methodLink RX4 74 yX3_hasExcuse, Cond.instanceMethod yX3_hasExcuse, Cond.selects RX3 yX3_hasExcuse yX3_hasExcuse, Cond.initialized RX3, Cond.code yX3_hasExcuse cX3_hasExcuse 2 (some .boolean), Cond.fieldLink RX3 18 "ExcuseTariffs$School" "excuses" "I", Cond.methodLink RX4 59 yX0_keep, Cond.instanceMethod yX0_keep, Cond.selects RX0 yX0_keep yX0_keep, Cond.initialized RX0, Cond.code yX0_keep cX0_keep 2 none]
def wsX4_offer_r2 : List Cond := [Cond.fieldLink RX0 11 "ExcuseTariffs$History" "states" "[LExcuseTariffs$School;", Cond.fieldLink RX0 17 "ExcuseTariffs$History" "next" "I", Cond.fieldLink RX0 21 "ExcuseTariffs$History" "kept" "I", Cond.methodLink RX0 29 Lib.Math.min.name, Cond.static Lib.Math.min.name, Cond.initialized "java/lang/Math", Cond.code Lib.Math.min.name Lib.Math.min.code 2 (some .int), Cond.methodLink RX0 25 yX3_become, Cond.instanceMethod yX3_become, Cond.selects RX3 yX3_become yX3_become, Cond.code yX3_become cX3_become 2 none, Cond.fieldLink RX3 13 "ExcuseTariffs$School" "settings" "[I", Cond.fieldLink RX3 22 "ExcuseTariffs$School" "kinds" "[I", Cond.fieldLink RX3 25 "ExcuseTariffs$School" "worths" "[I", Cond.fieldLink RX3 28 "ExcuseTariffs$School" "usesInAllTerms" "[I", Cond.fieldLink RX3 31 "ExcuseTariffs$School" "uses" "[I", Cond.fieldLink RX3 34 "ExcuseTariffs$School" "credits" "[I", Cond.fieldLink RX3 37 "ExcuseTariffs$School" "fines" "[I", Cond.fieldLink RX3 40 "ExcuseTariffs$School" "paid" "[I", Cond.fieldLink RX3 43 "ExcuseTariffs$School" "stamps" "[I", Cond.fieldLink RX3 46 "ExcuseTariffs$School" "refusals" "[I", Cond.fieldLink RX3 49 "ExcuseTariffs$School" "latestKinds" "[I", Cond.fieldLink RX3 52 "ExcuseTariffs$School" "grudges" "[I", Cond.fieldLink RX3 55 "ExcuseTariffs$School" "refusedFor" "[I"]
def wsX4_offer_r3 : List Cond := [Cond.fieldLink RX3 58 "ExcuseTariffs$School" "termsEnded" "I", Cond.static yX4_copy, Cond.code yX4_copy cX4_copy 2 none, Cond.methodLink RX4 217 Lib.Math.min.name, Cond.methodLink RX4 222 arraycopyName, Cond.native arraycopyName, Cond.static arraycopyName, Cond.initialized "java/lang/System", Cond.methodLink RX4 85 yX3_takeOffer, Cond.instanceMethod yX3_takeOffer, Cond.selects RX3 yX3_takeOffer yX3_takeOffer, Cond.code yX3_takeOffer cX3_takeOffer 6 (some .int), Cond.methodLink RX3 98 yX3_reasonAgainst, Cond.instanceMethod yX3_reasonAgainst, Cond.selects RX3 yX3_reasonAgainst yX3_reasonAgainst, Cond.code yX3_reasonAgainst cX3_reasonAgainst 5 (some .int), Cond.methodLink RX3 65 yX3_usesOf, Cond.instanceMethod yX3_usesOf, Cond.selects RX3 yX3_usesOf yX3_usesOf, Cond.code yX3_usesOf cX3_usesOf 3 (some .int), Cond.methodLink RX3 94 yX3_weightOf, Cond.instanceMethod yX3_weightOf, Cond.selects RX3 yX3_weightOf yX3_weightOf, Cond.code yX3_weightOf cX3_weightOf 6 (some .int)]
def wsX4_offer_r4 : List Cond := [Cond.methodLink RX3 88 yX3_noveltyFor, Cond.instanceMethod yX3_noveltyFor, Cond.selects RX3 yX3_noveltyFor yX3_noveltyFor, Cond.code yX3_noveltyFor cX3_noveltyFor 4 (some .int), Cond.methodLink RX3 79 Lib.Math.max.name, Cond.static Lib.Math.max.name, Cond.code Lib.Math.max.name Lib.Math.max.code 2 (some .int), Cond.methodLink RX3 69 yX3_usesBySchool, Cond.instanceMethod yX3_usesBySchool, Cond.selects RX3 yX3_usesBySchool yX3_usesBySchool, Cond.code yX3_usesBySchool cX3_usesBySchool 4 (some .int), Cond.static yX4_classOf, Cond.code yX4_classOf cX4_classOf 1 (some .int), Cond.methodLink RX3 76 yX3_usesByClass, Cond.instanceMethod yX3_usesByClass, Cond.selects RX3 yX3_usesByClass yX3_usesByClass, Cond.code yX3_usesByClass cX3_usesByClass 4 (some .int), Cond.methodLink RX3 91 yX3_standingOf, Cond.instanceMethod yX3_standingOf, Cond.selects RX3 yX3_standingOf yX3_standingOf, Cond.code yX3_standingOf cX3_standingOf 3 (some .int), Cond.methodLink RX3 101 yX3_stamp, Cond.instanceMethod yX3_stamp, Cond.selects RX3 yX3_stamp yX3_stamp]
def wsX4_offer_r5 : List Cond := [Cond.code yX3_stamp cX3_stamp 5 none, Cond.methodLink RX3 108 yX3_takeCredit, Cond.instanceMethod yX3_takeCredit, Cond.selects RX3 yX3_takeCredit yX3_takeCredit, Cond.code yX3_takeCredit cX3_takeCredit 3 none, Cond.methodLink RX3 112 yX3_angerMasterOf, Cond.instanceMethod yX3_angerMasterOf, Cond.selects RX3 yX3_angerMasterOf yX3_angerMasterOf, Cond.code yX3_angerMasterOf cX3_angerMasterOf 3 none, Cond.methodLink RX3 116 Lib.Math.min.name, Cond.methodLink RX3 105 yX3_refuse, Cond.instanceMethod yX3_refuse, Cond.selects RX3 yX3_refuse yX3_refuse, Cond.code yX3_refuse cX3_refuse 5 none]
def wsX4_offer : List Cond := .code yX4_offer cX4_offer 6 (some .int) :: ((wsX4_offer_r1 ++ (wsX4_offer_r2 ++ (wsX4_offer_r3 ++ (wsX4_offer_r4 ++ wsX4_offer_r5)))) ++ wsX40 ++ wsX30 ++ wsX00)
def wsX4_pay_r1 : List Cond := [Cond.fieldLink RX4 10 "ExcuseTariffs" "school" "LExcuseTariffs$School;", Cond.fieldLink RX4 91 "ExcuseTariffs$School" "fines" "[I", Cond.fieldLink RX4 19 "ExcuseTariffs" "history" "LExcuseTariffs$History;", Cond.fieldLink RX4 94 "ExcuseTariffs$School" "paid" "[I", Cond.methodLink RX4 88 yX4_isPupil, Cond.static yX4_isPupil, Cond.initialized RX4, Cond.code yX4_isPupil cX4_isPupil 1 (some .boolean), Cond.methodLink RX4 49 yX4_isWithin, Cond.static yX4_isWithin, Cond.code yX4_isWithin cX4_isWithin 3 (some .boolean), Cond.methodLink RX4 59 yX0_keep, Cond.instanceMethod yX0_keep, Cond.selects RX0 yX0_keep yX0_keep, Cond.initialized RX0, Cond.code yX0_keep cX0_keep 2 none, Cond.fieldLink RX0 11 "ExcuseTariffs$History" "states" "[LExcuseTariffs$School;", Cond.fieldLink RX0 17 "ExcuseTariffs$History" "next" "I", Cond.fieldLink RX0 21 "ExcuseTariffs$History" "kept" "I", Cond.methodLink RX0 29 Lib.Math.min.name, Cond.static Lib.Math.min.name, Cond.initialized "java/lang/Math", Cond.code Lib.Math.min.name Lib.Math.min.code 2 (some .int), Cond.methodLink RX0 25 yX3_become]
def wsX4_pay_r2 : List Cond := [Cond.instanceMethod yX3_become, Cond.selects RX3 yX3_become yX3_become, Cond.initialized RX3, Cond.code yX3_become cX3_become 2 none, Cond.fieldLink RX3 13 "ExcuseTariffs$School" "settings" "[I", Cond.fieldLink RX3 18 "ExcuseTariffs$School" "excuses" "I", Cond.fieldLink RX3 22 "ExcuseTariffs$School" "kinds" "[I", Cond.fieldLink RX3 25 "ExcuseTariffs$School" "worths" "[I", Cond.fieldLink RX3 28 "ExcuseTariffs$School" "usesInAllTerms" "[I", Cond.fieldLink RX3 31 "ExcuseTariffs$School" "uses" "[I", Cond.fieldLink RX3 34 "ExcuseTariffs$School" "credits" "[I", Cond.fieldLink RX3 37 "ExcuseTariffs$School" "fines" "[I", Cond.fieldLink RX3 40 "ExcuseTariffs$School" "paid" "[I", Cond.fieldLink RX3 43 "ExcuseTariffs$School" "stamps" "[I", Cond.fieldLink RX3 46 "ExcuseTariffs$School" "refusals" "[I", Cond.fieldLink RX3 49 "ExcuseTariffs$School" "latestKinds" "[I", Cond.fieldLink RX3 52 "ExcuseTariffs$School" "grudges" "[I", Cond.fieldLink RX3 55 "ExcuseTariffs$School" "refusedFor" "[I", Cond.fieldLink RX3 58 "ExcuseTariffs$School" "termsEnded" "I", Cond.static yX4_copy, Cond.code yX4_copy cX4_copy 2 none, Cond.methodLink RX4 217 Lib.Math.min.name, Cond.methodLink RX4 222 arraycopyName, Cond.native arraycopyName]
def wsX4_pay_r3 : List Cond := [Cond.static arraycopyName, Cond.initialized "java/lang/System"]
def wsX4_pay : List Cond := .code yX4_pay cX4_pay 3 (some .int) :: ((wsX4_pay_r1 ++ (wsX4_pay_r2 ++ wsX4_pay_r3)) ++ wsX40 ++ wsX30 ++ wsX00)
def wsX4_sum : List Cond := .code yX4_sum cX4_sum 3 (some .int) :: ([])
def wsX4_endTerm_r1 : List Cond := [Cond.fieldLink RX4 19 "ExcuseTariffs" "history" "LExcuseTariffs$History;", Cond.fieldLink RX4 10 "ExcuseTariffs" "school" "LExcuseTariffs$School;", Cond.fieldLink RX4 97 "ExcuseTariffs$School" "uses" "[I", Cond.methodLink RX4 59 yX0_keep, Cond.instanceMethod yX0_keep, Cond.selects RX0 yX0_keep yX0_keep, Cond.initialized RX0, Cond.code yX0_keep cX0_keep 2 none, Cond.fieldLink RX0 11 "ExcuseTariffs$History" "states" "[LExcuseTariffs$School;", Cond.fieldLink RX0 17 "ExcuseTariffs$History" "next" "I", Cond.fieldLink RX0 21 "ExcuseTariffs$History" "kept" "I", Cond.methodLink RX0 29 Lib.Math.min.name, Cond.static Lib.Math.min.name, Cond.initialized "java/lang/Math", Cond.code Lib.Math.min.name Lib.Math.min.code 2 (some .int), Cond.methodLink RX0 25 yX3_become, Cond.instanceMethod yX3_become, Cond.selects RX3 yX3_become yX3_become, Cond.initialized RX3, Cond.code yX3_become cX3_become 2 none, Cond.fieldLink RX3 13 "ExcuseTariffs$School" "settings" "[I", Cond.fieldLink RX3 18 "ExcuseTariffs$School" "excuses" "I", Cond.fieldLink RX3 22 "ExcuseTariffs$School" "kinds" "[I", Cond.fieldLink RX3 25 "ExcuseTariffs$School" "worths" "[I"]
def wsX4_endTerm_r2 : List Cond := [Cond.fieldLink RX3 28 "ExcuseTariffs$School" "usesInAllTerms" "[I", Cond.fieldLink RX3 31 "ExcuseTariffs$School" "uses" "[I", Cond.fieldLink RX3 34 "ExcuseTariffs$School" "credits" "[I", Cond.fieldLink RX3 37 "ExcuseTariffs$School" "fines" "[I", Cond.fieldLink RX3 40 "ExcuseTariffs$School" "paid" "[I", Cond.fieldLink RX3 43 "ExcuseTariffs$School" "stamps" "[I", Cond.fieldLink RX3 46 "ExcuseTariffs$School" "refusals" "[I", Cond.fieldLink RX3 49 "ExcuseTariffs$School" "latestKinds" "[I", Cond.fieldLink RX3 52 "ExcuseTariffs$School" "grudges" "[I", Cond.fieldLink RX3 55 "ExcuseTariffs$School" "refusedFor" "[I", Cond.fieldLink RX3 58 "ExcuseTariffs$School" "termsEnded" "I", Cond.static yX4_copy, Cond.initialized RX4, Cond.code yX4_copy cX4_copy 2 none, Cond.methodLink RX4 217 Lib.Math.min.name, Cond.methodLink RX4 222 arraycopyName, Cond.native arraycopyName, Cond.static arraycopyName, Cond.initialized "java/lang/System", Cond.methodLink RX4 100 yX4_sum, Cond.static yX4_sum, Cond.code yX4_sum cX4_sum 3 (some .int), Cond.methodLink RX4 104 yX3_beginNextTerm, Cond.instanceMethod yX3_beginNextTerm]
def wsX4_endTerm_r3 : List Cond := [Cond.selects RX3 yX3_beginNextTerm yX3_beginNextTerm, Cond.code yX3_beginNextTerm cX3_beginNextTerm 2 none, Cond.methodLink RX3 116 Lib.Math.min.name]
def wsX4_endTerm : List Cond := .code yX4_endTerm cX4_endTerm 2 (some .int) :: ((wsX4_endTerm_r1 ++ (wsX4_endTerm_r2 ++ wsX4_endTerm_r3)) ++ wsX40 ++ wsX30 ++ wsX00)
def wsX4_fault_r1 : List Cond := [Cond.fieldLink RX4 41 "ExcuseTariffs" "reader" "LExcuseTariffs$Reader;", Cond.fieldLink RX4 34 "ExcuseTariffs" "pad" "LExcuseTariffs$Pad;", Cond.fieldLink RX4 114 "ExcuseTariffs$Pad" "length" "I", Cond.fieldLink RX4 117 "ExcuseTariffs$Pad" "characters" "[C", Cond.methodLink RX4 111 yX2_begin, Cond.instanceMethod yX2_begin, Cond.selects RX2 yX2_begin yX2_begin, Cond.initialized RX2, Cond.code yX2_begin cX2_begin 1 none, Cond.fieldLink RX2 11 "ExcuseTariffs$Reader" "place" "I", Cond.fieldLink RX2 24 "ExcuseTariffs$Reader" "witness" "I", Cond.methodLink RX4 124 yX2_takes, Cond.instanceMethod yX2_takes, Cond.selects RX2 yX2_takes yX2_takes, Cond.code yX2_takes cX2_takes 2 (some .boolean), Cond.fieldLink RX2 21 "ExcuseTariffs$Reader" "minutes" "I", Cond.methodLink RX2 27 yX2_takesPupil, Cond.instanceMethod yX2_takesPupil, Cond.selects RX2 yX2_takesPupil yX2_takesPupil, Cond.code yX2_takesPupil cX2_takesPupil 2 (some .boolean), Cond.fieldLink RX2 15 "ExcuseTariffs$Reader" "pupil" "I", Cond.methodLink RX2 51 yX2_isDigit, Cond.static yX2_isDigit, Cond.code yX2_isDigit cX2_isDigit 1 (some .boolean)]
def wsX4_fault_r2 : List Cond := [Cond.static yX4_isWithin, Cond.initialized RX4, Cond.code yX4_isWithin cX4_isWithin 3 (some .boolean), Cond.methodLink RX2 34 yX2_goesOn, Cond.instanceMethod yX2_goesOn, Cond.selects RX2 yX2_goesOn yX2_goesOn, Cond.code yX2_goesOn cX2_goesOn 3 (some .boolean), Cond.methodLink RX2 31 yX2_takesExcuse, Cond.instanceMethod yX2_takesExcuse, Cond.selects RX2 yX2_takesExcuse yX2_takesExcuse, Cond.code yX2_takesExcuse cX2_takesExcuse 3 (some .boolean), Cond.fieldLink RX2 18 "ExcuseTariffs$Reader" "excuse" "I", Cond.methodLink RX2 38 yX2_takesMinutes, Cond.instanceMethod yX2_takesMinutes, Cond.selects RX2 yX2_takesMinutes yX2_takesMinutes, Cond.code yX2_takesMinutes cX2_takesMinutes 4 (some .boolean), Cond.methodLink RX2 42 yX2_takesAfterMinutes, Cond.instanceMethod yX2_takesAfterMinutes, Cond.selects RX2 yX2_takesAfterMinutes yX2_takesAfterMinutes, Cond.code yX2_takesAfterMinutes cX2_takesAfterMinutes 2 (some .boolean), Cond.methodLink RX2 48 yX2_takesComma, Cond.instanceMethod yX2_takesComma, Cond.selects RX2 yX2_takesComma yX2_takesComma, Cond.code yX2_takesComma cX2_takesComma 2 (some .boolean)]
def wsX4_fault_r3 : List Cond := [Cond.methodLink RX2 45 yX2_takesWitness, Cond.instanceMethod yX2_takesWitness, Cond.selects RX2 yX2_takesWitness yX2_takesWitness, Cond.code yX2_takesWitness cX2_takesWitness 3 (some .boolean), Cond.methodLink RX4 195 yX2_canEnd, Cond.instanceMethod yX2_canEnd, Cond.selects RX2 yX2_canEnd yX2_canEnd, Cond.code yX2_canEnd cX2_canEnd 1 (some .boolean)]
def wsX4_fault : List Cond := .code yX4_fault cX4_fault 2 (some .int) :: ((wsX4_fault_r1 ++ (wsX4_fault_r2 ++ wsX4_fault_r3)) ++ wsX40 ++ wsX10 ++ wsX20)
def wsX4_stampsForWhatWasRead_r1 : List Cond := [Cond.fieldLink RX4 10 "ExcuseTariffs" "school" "LExcuseTariffs$School;", Cond.fieldLink RX4 41 "ExcuseTariffs" "reader" "LExcuseTariffs$Reader;", Cond.fieldLink RX4 205 "ExcuseTariffs$Reader" "excuse" "I", Cond.fieldLink RX4 208 "ExcuseTariffs$Reader" "pupil" "I", Cond.fieldLink RX4 211 "ExcuseTariffs$Reader" "witness" "I", Cond.fieldLink RX4 214 "ExcuseTariffs$Reader" "minutes" "I", Cond.methodLink RX4 74 yX3_hasExcuse, Cond.instanceMethod yX3_hasExcuse, Cond.selects RX3 yX3_hasExcuse yX3_hasExcuse, Cond.initialized RX3, Cond.code yX3_hasExcuse cX3_hasExcuse 2 (some .boolean), Cond.fieldLink RX3 18 "ExcuseTariffs$School" "excuses" "I", Cond.methodLink RX4 85 yX3_takeOffer, Cond.instanceMethod yX3_takeOffer, Cond.selects RX3 yX3_takeOffer yX3_takeOffer, Cond.code yX3_takeOffer cX3_takeOffer 6 (some .int), Cond.fieldLink RX3 49 "ExcuseTariffs$School" "latestKinds" "[I", Cond.fieldLink RX3 22 "ExcuseTariffs$School" "kinds" "[I", Cond.methodLink RX3 98 yX3_reasonAgainst, Cond.instanceMethod yX3_reasonAgainst, Cond.selects RX3 yX3_reasonAgainst yX3_reasonAgainst, Cond.code yX3_reasonAgainst cX3_reasonAgainst 5 (some .int), Cond.fieldLink RX3 13 "ExcuseTariffs$School" "settings" "[I", Cond.fieldLink RX3 34 "ExcuseTariffs$School" "credits" "[I"]
def wsX4_stampsForWhatWasRead_r2 : List Cond := [Cond.methodLink RX3 65 yX3_usesOf, Cond.instanceMethod yX3_usesOf, Cond.selects RX3 yX3_usesOf yX3_usesOf, Cond.code yX3_usesOf cX3_usesOf 3 (some .int), Cond.fieldLink RX3 31 "ExcuseTariffs$School" "uses" "[I", Cond.methodLink RX3 94 yX3_weightOf, Cond.instanceMethod yX3_weightOf, Cond.selects RX3 yX3_weightOf yX3_weightOf, Cond.code yX3_weightOf cX3_weightOf 6 (some .int), Cond.fieldLink RX3 25 "ExcuseTariffs$School" "worths" "[I", Cond.fieldLink RX3 52 "ExcuseTariffs$School" "grudges" "[I", Cond.methodLink RX3 88 yX3_noveltyFor, Cond.instanceMethod yX3_noveltyFor, Cond.selects RX3 yX3_noveltyFor yX3_noveltyFor, Cond.code yX3_noveltyFor cX3_noveltyFor 4 (some .int), Cond.methodLink RX3 79 Lib.Math.max.name, Cond.static Lib.Math.max.name, Cond.initialized "java/lang/Math", Cond.code Lib.Math.max.name Lib.Math.max.code 2 (some .int), Cond.methodLink RX3 69 yX3_usesBySchool, Cond.instanceMethod yX3_usesBySchool, Cond.selects RX3 yX3_usesBySchool yX3_usesBySchool, Cond.code yX3_usesBySchool cX3_usesBySchool 4 (some .int), Cond.static yX4_classOf]
def wsX4_stampsForWhatWasRead_r3 : List Cond := [Cond.initialized RX4, Cond.code yX4_classOf cX4_classOf 1 (some .int), Cond.methodLink RX3 76 yX3_usesByClass, Cond.instanceMethod yX3_usesByClass, Cond.selects RX3 yX3_usesByClass yX3_usesByClass, Cond.code yX3_usesByClass cX3_usesByClass 4 (some .int), Cond.methodLink RX3 91 yX3_standingOf, Cond.instanceMethod yX3_standingOf, Cond.selects RX3 yX3_standingOf yX3_standingOf, Cond.code yX3_standingOf cX3_standingOf 3 (some .int), Cond.methodLink RX3 101 yX3_stamp, Cond.instanceMethod yX3_stamp, Cond.selects RX3 yX3_stamp yX3_stamp, Cond.code yX3_stamp cX3_stamp 5 none, Cond.fieldLink RX3 28 "ExcuseTariffs$School" "usesInAllTerms" "[I", Cond.fieldLink RX3 43 "ExcuseTariffs$School" "stamps" "[I", Cond.methodLink RX3 108 yX3_takeCredit, Cond.instanceMethod yX3_takeCredit, Cond.selects RX3 yX3_takeCredit yX3_takeCredit, Cond.code yX3_takeCredit cX3_takeCredit 3 none, Cond.methodLink RX3 112 yX3_angerMasterOf, Cond.instanceMethod yX3_angerMasterOf, Cond.selects RX3 yX3_angerMasterOf yX3_angerMasterOf, Cond.code yX3_angerMasterOf cX3_angerMasterOf 3 none]
def wsX4_stampsForWhatWasRead_r4 : List Cond := [Cond.methodLink RX3 116 Lib.Math.min.name, Cond.static Lib.Math.min.name, Cond.code Lib.Math.min.name Lib.Math.min.code 2 (some .int), Cond.methodLink RX3 105 yX3_refuse, Cond.instanceMethod yX3_refuse, Cond.selects RX3 yX3_refuse yX3_refuse, Cond.code yX3_refuse cX3_refuse 5 none, Cond.fieldLink RX3 37 "ExcuseTariffs$School" "fines" "[I", Cond.fieldLink RX3 46 "ExcuseTariffs$School" "refusals" "[I", Cond.fieldLink RX3 55 "ExcuseTariffs$School" "refusedFor" "[I"]
def wsX4_stampsForWhatWasRead : List Cond := .code yX4_stampsForWhatWasRead cX4_stampsForWhatWasRead 2 (some .int) :: ((wsX4_stampsForWhatWasRead_r1 ++ (wsX4_stampsForWhatWasRead_r2 ++ (wsX4_stampsForWhatWasRead_r3 ++ wsX4_stampsForWhatWasRead_r4))) ++ wsX40 ++ wsX20 ++ wsX30)
def wsX4_read_r1 : List Cond := [Cond.fieldLink RX4 19 "ExcuseTariffs" "history" "LExcuseTariffs$History;", Cond.fieldLink RX4 10 "ExcuseTariffs" "school" "LExcuseTariffs$School;", Cond.fieldLink RX4 41 "ExcuseTariffs" "reader" "LExcuseTariffs$Reader;", Cond.fieldLink RX4 34 "ExcuseTariffs" "pad" "LExcuseTariffs$Pad;", Cond.fieldLink RX4 114 "ExcuseTariffs$Pad" "length" "I", Cond.fieldLink RX4 117 "ExcuseTariffs$Pad" "characters" "[C", Cond.methodLink RX4 107 yX4_fault, Cond.instanceMethod yX4_fault, Cond.selects RX4 yX4_fault yX4_fault, Cond.initialized RX4, Cond.code yX4_fault cX4_fault 2 (some .int), Cond.methodLink RX4 111 yX2_begin, Cond.instanceMethod yX2_begin, Cond.selects RX2 yX2_begin yX2_begin, Cond.initialized RX2, Cond.code yX2_begin cX2_begin 1 none, Cond.fieldLink RX2 11 "ExcuseTariffs$Reader" "place" "I", Cond.fieldLink RX2 24 "ExcuseTariffs$Reader" "witness" "I", Cond.methodLink RX4 124 yX2_takes, Cond.instanceMethod yX2_takes, Cond.selects RX2 yX2_takes yX2_takes, Cond.code yX2_takes cX2_takes 2 (some .boolean), Cond.fieldLink RX2 21 "ExcuseTariffs$Reader" "minutes" "I", Cond.methodLink RX2 27 yX2_takesPupil]
def wsX4_read_r2 : List Cond := [Cond.instanceMethod yX2_takesPupil, Cond.selects RX2 yX2_takesPupil yX2_takesPupil, Cond.code yX2_takesPupil cX2_takesPupil 2 (some .boolean), Cond.fieldLink RX2 15 "ExcuseTariffs$Reader" "pupil" "I", Cond.methodLink RX2 51 yX2_isDigit, Cond.static yX2_isDigit, Cond.code yX2_isDigit cX2_isDigit 1 (some .boolean), Cond.static yX4_isWithin, Cond.code yX4_isWithin cX4_isWithin 3 (some .boolean), Cond.methodLink RX2 34 yX2_goesOn, Cond.instanceMethod yX2_goesOn, Cond.selects RX2 yX2_goesOn yX2_goesOn, Cond.code yX2_goesOn cX2_goesOn 3 (some .boolean), Cond.methodLink RX2 31 yX2_takesExcuse, Cond.instanceMethod yX2_takesExcuse, Cond.selects RX2 yX2_takesExcuse yX2_takesExcuse, Cond.code yX2_takesExcuse cX2_takesExcuse 3 (some .boolean), Cond.fieldLink RX2 18 "ExcuseTariffs$Reader" "excuse" "I", Cond.methodLink RX2 38 yX2_takesMinutes, Cond.instanceMethod yX2_takesMinutes, Cond.selects RX2 yX2_takesMinutes yX2_takesMinutes, Cond.code yX2_takesMinutes cX2_takesMinutes 4 (some .boolean), Cond.methodLink RX2 42 yX2_takesAfterMinutes, Cond.instanceMethod yX2_takesAfterMinutes]
def wsX4_read_r3 : List Cond := [Cond.selects RX2 yX2_takesAfterMinutes yX2_takesAfterMinutes, Cond.code yX2_takesAfterMinutes cX2_takesAfterMinutes 2 (some .boolean), Cond.methodLink RX2 48 yX2_takesComma, Cond.instanceMethod yX2_takesComma, Cond.selects RX2 yX2_takesComma yX2_takesComma, Cond.code yX2_takesComma cX2_takesComma 2 (some .boolean), Cond.methodLink RX2 45 yX2_takesWitness, Cond.instanceMethod yX2_takesWitness, Cond.selects RX2 yX2_takesWitness yX2_takesWitness, Cond.code yX2_takesWitness cX2_takesWitness 3 (some .boolean), Cond.methodLink RX4 195 yX2_canEnd, Cond.instanceMethod yX2_canEnd, Cond.selects RX2 yX2_canEnd yX2_canEnd, Cond.code yX2_canEnd cX2_canEnd 1 (some .boolean), Cond.methodLink RX4 59 yX0_keep, Cond.instanceMethod yX0_keep, Cond.selects RX0 yX0_keep yX0_keep, Cond.initialized RX0, Cond.code yX0_keep cX0_keep 2 none, Cond.fieldLink RX0 11 "ExcuseTariffs$History" "states" "[LExcuseTariffs$School;", Cond.fieldLink RX0 17 "ExcuseTariffs$History" "next" "I", Cond.fieldLink RX0 21 "ExcuseTariffs$History" "kept" "I", Cond.methodLink RX0 29 Lib.Math.min.name, Cond.static Lib.Math.min.name]
def wsX4_read_r4 : List Cond := [Cond.initialized "java/lang/Math", Cond.code Lib.Math.min.name Lib.Math.min.code 2 (some .int), Cond.methodLink RX0 25 yX3_become, Cond.instanceMethod yX3_become, Cond.selects RX3 yX3_become yX3_become, Cond.initialized RX3, Cond.code yX3_become cX3_become 2 none, Cond.fieldLink RX3 13 "ExcuseTariffs$School" "settings" "[I", Cond.fieldLink RX3 18 "ExcuseTariffs$School" "excuses" "I", Cond.fieldLink RX3 22 "ExcuseTariffs$School" "kinds" "[I", Cond.fieldLink RX3 25 "ExcuseTariffs$School" "worths" "[I", Cond.fieldLink RX3 28 "ExcuseTariffs$School" "usesInAllTerms" "[I", Cond.fieldLink RX3 31 "ExcuseTariffs$School" "uses" "[I", Cond.fieldLink RX3 34 "ExcuseTariffs$School" "credits" "[I", Cond.fieldLink RX3 37 "ExcuseTariffs$School" "fines" "[I", Cond.fieldLink RX3 40 "ExcuseTariffs$School" "paid" "[I", Cond.fieldLink RX3 43 "ExcuseTariffs$School" "stamps" "[I", Cond.fieldLink RX3 46 "ExcuseTariffs$School" "refusals" "[I", Cond.fieldLink RX3 49 "ExcuseTariffs$School" "latestKinds" "[I", Cond.fieldLink RX3 52 "ExcuseTariffs$School" "grudges" "[I", Cond.fieldLink RX3 55 "ExcuseTariffs$School" "refusedFor" "[I", Cond.fieldLink RX3 58 "ExcuseTariffs$School" "termsEnded" "I", Cond.static yX4_copy, Cond.code yX4_copy cX4_copy 2 none]
def wsX4_read_r5 : List Cond := [Cond.methodLink RX4 217 Lib.Math.min.name, Cond.methodLink RX4 222 arraycopyName, Cond.native arraycopyName, Cond.static arraycopyName, Cond.initialized "java/lang/System", Cond.methodLink RX4 121 yX4_stampsForWhatWasRead, Cond.instanceMethod yX4_stampsForWhatWasRead, Cond.selects RX4 yX4_stampsForWhatWasRead yX4_stampsForWhatWasRead, Cond.code yX4_stampsForWhatWasRead cX4_stampsForWhatWasRead 2 (some .int), Cond.fieldLink RX4 205 "ExcuseTariffs$Reader" "excuse" "I", Cond.fieldLink RX4 208 "ExcuseTariffs$Reader" "pupil" "I", Cond.fieldLink RX4 211 "ExcuseTariffs$Reader" "witness" "I", Cond.fieldLink RX4 214 "ExcuseTariffs$Reader" "minutes" "I", Cond.methodLink RX4 74 yX3_hasExcuse, Cond.instanceMethod yX3_hasExcuse, Cond.selects RX3 yX3_hasExcuse yX3_hasExcuse, Cond.code yX3_hasExcuse cX3_hasExcuse 2 (some .boolean), Cond.methodLink RX4 85 yX3_takeOffer, Cond.instanceMethod yX3_takeOffer, Cond.selects RX3 yX3_takeOffer yX3_takeOffer, Cond.code yX3_takeOffer cX3_takeOffer 6 (some .int), Cond.methodLink RX3 98 yX3_reasonAgainst, Cond.instanceMethod yX3_reasonAgainst, Cond.selects RX3 yX3_reasonAgainst yX3_reasonAgainst]
def wsX4_read_r6 : List Cond := [Cond.code yX3_reasonAgainst cX3_reasonAgainst 5 (some .int), Cond.methodLink RX3 65 yX3_usesOf, Cond.instanceMethod yX3_usesOf, Cond.selects RX3 yX3_usesOf yX3_usesOf, Cond.code yX3_usesOf cX3_usesOf 3 (some .int), Cond.methodLink RX3 94 yX3_weightOf, Cond.instanceMethod yX3_weightOf, Cond.selects RX3 yX3_weightOf yX3_weightOf, Cond.code yX3_weightOf cX3_weightOf 6 (some .int), Cond.methodLink RX3 88 yX3_noveltyFor, Cond.instanceMethod yX3_noveltyFor, Cond.selects RX3 yX3_noveltyFor yX3_noveltyFor, Cond.code yX3_noveltyFor cX3_noveltyFor 4 (some .int), Cond.methodLink RX3 79 Lib.Math.max.name, Cond.static Lib.Math.max.name, Cond.code Lib.Math.max.name Lib.Math.max.code 2 (some .int), Cond.methodLink RX3 69 yX3_usesBySchool, Cond.instanceMethod yX3_usesBySchool, Cond.selects RX3 yX3_usesBySchool yX3_usesBySchool, Cond.code yX3_usesBySchool cX3_usesBySchool 4 (some .int), Cond.static yX4_classOf, Cond.code yX4_classOf cX4_classOf 1 (some .int), Cond.methodLink RX3 76 yX3_usesByClass, Cond.instanceMethod yX3_usesByClass]
def wsX4_read_r7 : List Cond := [Cond.selects RX3 yX3_usesByClass yX3_usesByClass, Cond.code yX3_usesByClass cX3_usesByClass 4 (some .int), Cond.methodLink RX3 91 yX3_standingOf, Cond.instanceMethod yX3_standingOf, Cond.selects RX3 yX3_standingOf yX3_standingOf, Cond.code yX3_standingOf cX3_standingOf 3 (some .int), Cond.methodLink RX3 101 yX3_stamp, Cond.instanceMethod yX3_stamp, Cond.selects RX3 yX3_stamp yX3_stamp, Cond.code yX3_stamp cX3_stamp 5 none, Cond.methodLink RX3 108 yX3_takeCredit, Cond.instanceMethod yX3_takeCredit, Cond.selects RX3 yX3_takeCredit yX3_takeCredit, Cond.code yX3_takeCredit cX3_takeCredit 3 none, Cond.methodLink RX3 112 yX3_angerMasterOf, Cond.instanceMethod yX3_angerMasterOf, Cond.selects RX3 yX3_angerMasterOf yX3_angerMasterOf, Cond.code yX3_angerMasterOf cX3_angerMasterOf 3 none, Cond.methodLink RX3 116 Lib.Math.min.name, Cond.methodLink RX3 105 yX3_refuse, Cond.instanceMethod yX3_refuse, Cond.selects RX3 yX3_refuse yX3_refuse, Cond.code yX3_refuse cX3_refuse 5 none]
def wsX4_read : List Cond := .code yX4_read cX4_read 3 (some .int) :: ((wsX4_read_r1 ++ (wsX4_read_r2 ++ (wsX4_read_r3 ++ (wsX4_read_r4 ++ (wsX4_read_r5 ++ (wsX4_read_r6 ++ wsX4_read_r7)))))) ++ wsX40 ++ wsX10 ++ wsX20 ++ wsX00 ++ wsX30)
def wsX4_excuse : List Cond := .code yX4_excuse cX4_excuse 3 (some .int) :: ([.fieldLink RX4 10 "ExcuseTariffs" "school" "LExcuseTariffs$School;", .fieldLink RX4 128 "ExcuseTariffs$School" "kinds" "[I", .fieldLink RX4 78 "ExcuseTariffs$School" "worths" "[I", .fieldLink RX4 135 "ExcuseTariffs$School" "usesInAllTerms" "[I", .methodLink RX4 74 yX3_hasExcuse, .instanceMethod yX3_hasExcuse, .selects RX3 yX3_hasExcuse yX3_hasExcuse, .initialized RX3, .code yX3_hasExcuse cX3_hasExcuse 2 (some .boolean), .fieldLink RX3 18 "ExcuseTariffs$School" "excuses" "I", .methodLink RX4 131 yX3_usesBySchool, .instanceMethod yX3_usesBySchool, .selects RX3 yX3_usesBySchool yX3_usesBySchool, .code yX3_usesBySchool cX3_usesBySchool 4 (some .int), .fieldLink RX3 31 "ExcuseTariffs$School" "uses" "[I", .methodLink RX4 138 yX3_usersOf, .instanceMethod yX3_usersOf, .selects RX3 yX3_usersOf yX3_usersOf, .code yX3_usersOf cX3_usersOf 4 (some .int), .methodLink RX3 65 yX3_usesOf, .instanceMethod yX3_usesOf, .selects RX3 yX3_usesOf yX3_usesOf, .code yX3_usesOf cX3_usesOf 3 (some .int)] ++ wsX40 ++ wsX30)
def wsX4_pupil_r1 : List Cond := [Cond.fieldLink RX4 10 "ExcuseTariffs" "school" "LExcuseTariffs$School;", Cond.fieldLink RX4 141 "ExcuseTariffs$School" "credits" "[I", Cond.fieldLink RX4 91 "ExcuseTariffs$School" "fines" "[I", Cond.fieldLink RX4 144 "ExcuseTariffs$School" "stamps" "[I", Cond.fieldLink RX4 147 "ExcuseTariffs$School" "refusals" "[I", Cond.fieldLink RX4 150 "ExcuseTariffs$School" "latestKinds" "[I", Cond.fieldLink RX4 156 "ExcuseTariffs$School" "grudges" "[I", Cond.fieldLink RX4 94 "ExcuseTariffs$School" "paid" "[I", Cond.methodLink RX4 88 yX4_isPupil, Cond.static yX4_isPupil, Cond.initialized RX4, Cond.code yX4_isPupil cX4_isPupil 1 (some .boolean), Cond.methodLink RX4 49 yX4_isWithin, Cond.static yX4_isWithin, Cond.code yX4_isWithin cX4_isWithin 3 (some .boolean), Cond.methodLink RX4 153 yX3_usesByPupil, Cond.instanceMethod yX3_usesByPupil, Cond.selects RX3 yX3_usesByPupil yX3_usesByPupil, Cond.initialized RX3, Cond.code yX3_usesByPupil cX3_usesByPupil 4 (some .int), Cond.methodLink RX3 65 yX3_usesOf, Cond.instanceMethod yX3_usesOf, Cond.selects RX3 yX3_usesOf yX3_usesOf, Cond.code yX3_usesOf cX3_usesOf 3 (some .int)]
def wsX4_pupil_r2 : List Cond := [Cond.fieldLink RX3 31 "ExcuseTariffs$School" "uses" "[I", Cond.methodLink RX4 159 yX4_classOf, Cond.static yX4_classOf, Cond.code yX4_classOf cX4_classOf 1 (some .int)]
def wsX4_pupil : List Cond := .code yX4_pupil cX4_pupil 3 (some .int) :: ((wsX4_pupil_r1 ++ wsX4_pupil_r2) ++ wsX40 ++ wsX30)
def wsX4_novelty_r1 : List Cond := [Cond.fieldLink RX4 10 "ExcuseTariffs" "school" "LExcuseTariffs$School;", Cond.methodLink RX4 88 yX4_isPupil, Cond.static yX4_isPupil, Cond.initialized RX4, Cond.code yX4_isPupil cX4_isPupil 1 (some .boolean), Cond.methodLink RX4 49 yX4_isWithin, Cond.static yX4_isWithin, Cond.code yX4_isWithin cX4_isWithin 3 (some .boolean), Cond.methodLink RX4 74 yX3_hasExcuse, Cond.instanceMethod yX3_hasExcuse, Cond.selects RX3 yX3_hasExcuse yX3_hasExcuse, Cond.initialized RX3, Cond.code yX3_hasExcuse cX3_hasExcuse 2 (some .boolean), Cond.fieldLink RX3 18 "ExcuseTariffs$School" "excuses" "I", Cond.methodLink RX4 162 yX3_noveltyFor, Cond.instanceMethod yX3_noveltyFor, Cond.selects RX3 yX3_noveltyFor yX3_noveltyFor, Cond.code yX3_noveltyFor cX3_noveltyFor 4 (some .int), Cond.fieldLink RX3 13 "ExcuseTariffs$School" "settings" "[I", Cond.methodLink RX3 79 Lib.Math.max.name, Cond.static Lib.Math.max.name, Cond.initialized "java/lang/Math", Cond.code Lib.Math.max.name Lib.Math.max.code 2 (some .int), Cond.methodLink RX3 69 yX3_usesBySchool]
def wsX4_novelty_r2 : List Cond := [Cond.instanceMethod yX3_usesBySchool, Cond.selects RX3 yX3_usesBySchool yX3_usesBySchool, Cond.code yX3_usesBySchool cX3_usesBySchool 4 (some .int), Cond.fieldLink RX3 31 "ExcuseTariffs$School" "uses" "[I", Cond.static yX4_classOf, Cond.code yX4_classOf cX4_classOf 1 (some .int), Cond.methodLink RX3 76 yX3_usesByClass, Cond.instanceMethod yX3_usesByClass, Cond.selects RX3 yX3_usesByClass yX3_usesByClass, Cond.code yX3_usesByClass cX3_usesByClass 4 (some .int)]
def wsX4_novelty : List Cond := .code yX4_novelty cX4_novelty 3 (some .int) :: ((wsX4_novelty_r1 ++ wsX4_novelty_r2) ++ wsX40 ++ wsX30)
def wsX4_why_r1 : List Cond := [Cond.fieldLink RX4 10 "ExcuseTariffs" "school" "LExcuseTariffs$School;", Cond.methodLink RX4 81 yX4_offerError, Cond.instanceMethod yX4_offerError, Cond.selects RX4 yX4_offerError yX4_offerError, Cond.initialized RX4, Cond.code yX4_offerError cX4_offerError 5 (some .int), Cond.methodLink RX4 88 yX4_isPupil, Cond.static yX4_isPupil, Cond.code yX4_isPupil cX4_isPupil 1 (some .boolean), Cond.methodLink RX4 49 yX4_isWithin, Cond.static yX4_isWithin, Cond.code yX4_isWithin cX4_isWithin 3 (some .boolean), Cond.methodLink RX4 74 yX3_hasExcuse, Cond.instanceMethod yX3_hasExcuse, Cond.selects RX3 yX3_hasExcuse yX3_hasExcuse, Cond.initialized RX3, Cond.code yX3_hasExcuse cX3_hasExcuse 2 (some .boolean), Cond.fieldLink RX3 18 "ExcuseTariffs$School" "excuses" "I", Cond.methodLink RX4 165 yX3_reasonAgainst, Cond.instanceMethod yX3_reasonAgainst, Cond.selects RX3 yX3_reasonAgainst yX3_reasonAgainst, Cond.code yX3_reasonAgainst cX3_reasonAgainst 5 (some .int), Cond.fieldLink RX3 13 "ExcuseTariffs$School" "settings" "[I", Cond.fieldLink RX3 49 "ExcuseTariffs$School" "latestKinds" "[I"]
def wsX4_why_r2 : List Cond := [Cond.fieldLink RX3 22 "ExcuseTariffs$School" "kinds" "[I", Cond.fieldLink RX3 34 "ExcuseTariffs$School" "credits" "[I", Cond.methodLink RX3 65 yX3_usesOf, Cond.instanceMethod yX3_usesOf, Cond.selects RX3 yX3_usesOf yX3_usesOf, Cond.code yX3_usesOf cX3_usesOf 3 (some .int), Cond.fieldLink RX3 31 "ExcuseTariffs$School" "uses" "[I", Cond.methodLink RX3 94 yX3_weightOf, Cond.instanceMethod yX3_weightOf, Cond.selects RX3 yX3_weightOf yX3_weightOf, Cond.code yX3_weightOf cX3_weightOf 6 (some .int), Cond.fieldLink RX3 25 "ExcuseTariffs$School" "worths" "[I", Cond.fieldLink RX3 52 "ExcuseTariffs$School" "grudges" "[I", Cond.methodLink RX3 88 yX3_noveltyFor, Cond.instanceMethod yX3_noveltyFor, Cond.selects RX3 yX3_noveltyFor yX3_noveltyFor, Cond.code yX3_noveltyFor cX3_noveltyFor 4 (some .int), Cond.methodLink RX3 79 Lib.Math.max.name, Cond.static Lib.Math.max.name, Cond.initialized "java/lang/Math", Cond.code Lib.Math.max.name Lib.Math.max.code 2 (some .int), Cond.methodLink RX3 69 yX3_usesBySchool, Cond.instanceMethod yX3_usesBySchool, Cond.selects RX3 yX3_usesBySchool yX3_usesBySchool]
def wsX4_why_r3 : List Cond := [Cond.code yX3_usesBySchool cX3_usesBySchool 4 (some .int), Cond.static yX4_classOf, Cond.code yX4_classOf cX4_classOf 1 (some .int), Cond.methodLink RX3 76 yX3_usesByClass, Cond.instanceMethod yX3_usesByClass, Cond.selects RX3 yX3_usesByClass yX3_usesByClass, Cond.code yX3_usesByClass cX3_usesByClass 4 (some .int), Cond.methodLink RX3 91 yX3_standingOf, Cond.instanceMethod yX3_standingOf, Cond.selects RX3 yX3_standingOf yX3_standingOf, Cond.code yX3_standingOf cX3_standingOf 3 (some .int)]
def wsX4_why : List Cond := .code yX4_why cX4_why 6 (some .int) :: ((wsX4_why_r1 ++ (wsX4_why_r2 ++ wsX4_why_r3)) ++ wsX40 ++ wsX30)
def wsX4_weight_r1 : List Cond := [Cond.fieldLink RX4 10 "ExcuseTariffs" "school" "LExcuseTariffs$School;", Cond.methodLink RX4 81 yX4_offerError, Cond.instanceMethod yX4_offerError, Cond.selects RX4 yX4_offerError yX4_offerError, Cond.initialized RX4, Cond.code yX4_offerError cX4_offerError 5 (some .int), Cond.methodLink RX4 88 yX4_isPupil, Cond.static yX4_isPupil, Cond.code yX4_isPupil cX4_isPupil 1 (some .boolean), Cond.methodLink RX4 49 yX4_isWithin, Cond.static yX4_isWithin, Cond.code yX4_isWithin cX4_isWithin 3 (some .boolean), Cond.methodLink RX4 74 yX3_hasExcuse, Cond.instanceMethod yX3_hasExcuse, Cond.selects RX3 yX3_hasExcuse yX3_hasExcuse, Cond.initialized RX3, Cond.code yX3_hasExcuse cX3_hasExcuse 2 (some .boolean), Cond.fieldLink RX3 18 "ExcuseTariffs$School" "excuses" "I", Cond.methodLink RX4 168 yX3_weightOf, Cond.instanceMethod yX3_weightOf, Cond.selects RX3 yX3_weightOf yX3_weightOf, Cond.code yX3_weightOf cX3_weightOf 6 (some .int), Cond.fieldLink RX3 25 "ExcuseTariffs$School" "worths" "[I", Cond.fieldLink RX3 13 "ExcuseTariffs$School" "settings" "[I"]
def wsX4_weight_r2 : List Cond := [Cond.fieldLink RX3 52 "ExcuseTariffs$School" "grudges" "[I", Cond.methodLink RX3 88 yX3_noveltyFor, Cond.instanceMethod yX3_noveltyFor, Cond.selects RX3 yX3_noveltyFor yX3_noveltyFor, Cond.code yX3_noveltyFor cX3_noveltyFor 4 (some .int), Cond.methodLink RX3 79 Lib.Math.max.name, Cond.static Lib.Math.max.name, Cond.initialized "java/lang/Math", Cond.code Lib.Math.max.name Lib.Math.max.code 2 (some .int), Cond.methodLink RX3 69 yX3_usesBySchool, Cond.instanceMethod yX3_usesBySchool, Cond.selects RX3 yX3_usesBySchool yX3_usesBySchool, Cond.code yX3_usesBySchool cX3_usesBySchool 4 (some .int), Cond.fieldLink RX3 31 "ExcuseTariffs$School" "uses" "[I", Cond.static yX4_classOf, Cond.code yX4_classOf cX4_classOf 1 (some .int), Cond.methodLink RX3 76 yX3_usesByClass, Cond.instanceMethod yX3_usesByClass, Cond.selects RX3 yX3_usesByClass yX3_usesByClass, Cond.code yX3_usesByClass cX3_usesByClass 4 (some .int), Cond.methodLink RX3 91 yX3_standingOf, Cond.instanceMethod yX3_standingOf, Cond.selects RX3 yX3_standingOf yX3_standingOf, Cond.code yX3_standingOf cX3_standingOf 3 (some .int)]
def wsX4_weight_r3 : List Cond := [Cond.fieldLink RX3 34 "ExcuseTariffs$School" "credits" "[I"]
def wsX4_weight : List Cond := .code yX4_weight cX4_weight 6 (some .int) :: ((wsX4_weight_r1 ++ (wsX4_weight_r2 ++ wsX4_weight_r3)) ++ wsX40 ++ wsX30)
def wsX4_count_r1 : List Cond := [Cond.fieldLink RX4 45 "ExcuseTariffs" "FIRST_SETTINGS" "[I", Cond.fieldLink RX4 10 "ExcuseTariffs" "school" "LExcuseTariffs$School;", Cond.fieldLink RX4 63 "ExcuseTariffs$School" "settings" "[I", Cond.fieldLink RX4 66 "ExcuseTariffs$School" "excuses" "I", Cond.fieldLink RX4 144 "ExcuseTariffs$School" "stamps" "[I", Cond.fieldLink RX4 171 "ExcuseTariffs$School" "refusedFor" "[I", Cond.fieldLink RX4 91 "ExcuseTariffs$School" "fines" "[I", Cond.fieldLink RX4 94 "ExcuseTariffs$School" "paid" "[I", Cond.fieldLink RX4 174 "ExcuseTariffs$School" "termsEnded" "I", Cond.fieldLink RX4 141 "ExcuseTariffs$School" "credits" "[I", Cond.fieldLink RX4 156 "ExcuseTariffs$School" "grudges" "[I", Cond.fieldLink RX4 34 "ExcuseTariffs" "pad" "LExcuseTariffs$Pad;", Cond.fieldLink RX4 114 "ExcuseTariffs$Pad" "length" "I", Cond.fieldLink RX4 19 "ExcuseTariffs" "history" "LExcuseTariffs$History;", Cond.fieldLink RX4 180 "ExcuseTariffs$History" "kept" "I", Cond.methodLink RX4 49 yX4_isWithin, Cond.static yX4_isWithin, Cond.initialized RX4, Cond.code yX4_isWithin cX4_isWithin 3 (some .boolean), Cond.methodLink RX4 100 yX4_sum, Cond.static yX4_sum, Cond.code yX4_sum cX4_sum 3 (some .int), Cond.methodLink RX4 177 yX3_wornOutExcuses, Cond.instanceMethod yX3_wornOutExcuses]
def wsX4_count_r2 : List Cond := [Cond.selects RX3 yX3_wornOutExcuses yX3_wornOutExcuses, Cond.initialized RX3, Cond.code yX3_wornOutExcuses cX3_wornOutExcuses 3 (some .int), Cond.fieldLink RX3 18 "ExcuseTariffs$School" "excuses" "I", Cond.methodLink RX3 84 yX3_isWornOut, Cond.instanceMethod yX3_isWornOut, Cond.selects RX3 yX3_isWornOut yX3_isWornOut, Cond.code yX3_isWornOut cX3_isWornOut 3 (some .boolean), Cond.methodLink RX3 88 yX3_noveltyFor, Cond.instanceMethod yX3_noveltyFor, Cond.selects RX3 yX3_noveltyFor yX3_noveltyFor, Cond.code yX3_noveltyFor cX3_noveltyFor 4 (some .int), Cond.fieldLink RX3 13 "ExcuseTariffs$School" "settings" "[I", Cond.methodLink RX3 79 Lib.Math.max.name, Cond.static Lib.Math.max.name, Cond.initialized "java/lang/Math", Cond.code Lib.Math.max.name Lib.Math.max.code 2 (some .int), Cond.methodLink RX3 69 yX3_usesBySchool, Cond.instanceMethod yX3_usesBySchool, Cond.selects RX3 yX3_usesBySchool yX3_usesBySchool, Cond.code yX3_usesBySchool cX3_usesBySchool 4 (some .int), Cond.fieldLink RX3 31 "ExcuseTariffs$School" "uses" "[I", Cond.static yX4_classOf, Cond.code yX4_classOf cX4_classOf 1 (some .int)]
def wsX4_count_r3 : List Cond := [Cond.methodLink RX3 76 yX3_usesByClass, Cond.instanceMethod yX3_usesByClass, Cond.selects RX3 yX3_usesByClass yX3_usesByClass, Cond.code yX3_usesByClass cX3_usesByClass 4 (some .int)]
def wsX4_count : List Cond := .code yX4_count cX4_count 2 (some .int) :: ((wsX4_count_r1 ++ (wsX4_count_r2 ++ wsX4_count_r3)) ++ wsX40 ++ wsX30 ++ wsX10 ++ wsX00)
def wsX4_bestExcuse_r1 : List Cond := [Cond.fieldLink RX4 10 "ExcuseTariffs" "school" "LExcuseTariffs$School;", Cond.fieldLink RX4 66 "ExcuseTariffs$School" "excuses" "I", Cond.methodLink RX4 88 yX4_isPupil, Cond.static yX4_isPupil, Cond.initialized RX4, Cond.code yX4_isPupil cX4_isPupil 1 (some .boolean), Cond.methodLink RX4 49 yX4_isWithin, Cond.static yX4_isWithin, Cond.code yX4_isWithin cX4_isWithin 3 (some .boolean), Cond.methodLink RX4 165 yX3_reasonAgainst, Cond.instanceMethod yX3_reasonAgainst, Cond.selects RX3 yX3_reasonAgainst yX3_reasonAgainst, Cond.initialized RX3, Cond.code yX3_reasonAgainst cX3_reasonAgainst 5 (some .int), Cond.fieldLink RX3 13 "ExcuseTariffs$School" "settings" "[I", Cond.fieldLink RX3 49 "ExcuseTariffs$School" "latestKinds" "[I", Cond.fieldLink RX3 22 "ExcuseTariffs$School" "kinds" "[I", Cond.fieldLink RX3 34 "ExcuseTariffs$School" "credits" "[I", Cond.methodLink RX3 65 yX3_usesOf, Cond.instanceMethod yX3_usesOf, Cond.selects RX3 yX3_usesOf yX3_usesOf, Cond.code yX3_usesOf cX3_usesOf 3 (some .int), Cond.fieldLink RX3 31 "ExcuseTariffs$School" "uses" "[I", Cond.methodLink RX3 94 yX3_weightOf]
def wsX4_bestExcuse_r2 : List Cond := [Cond.instanceMethod yX3_weightOf, Cond.selects RX3 yX3_weightOf yX3_weightOf, Cond.code yX3_weightOf cX3_weightOf 6 (some .int), Cond.fieldLink RX3 25 "ExcuseTariffs$School" "worths" "[I", Cond.fieldLink RX3 52 "ExcuseTariffs$School" "grudges" "[I", Cond.methodLink RX3 88 yX3_noveltyFor, Cond.instanceMethod yX3_noveltyFor, Cond.selects RX3 yX3_noveltyFor yX3_noveltyFor, Cond.code yX3_noveltyFor cX3_noveltyFor 4 (some .int), Cond.methodLink RX3 79 Lib.Math.max.name, Cond.static Lib.Math.max.name, Cond.initialized "java/lang/Math", Cond.code Lib.Math.max.name Lib.Math.max.code 2 (some .int), Cond.methodLink RX3 69 yX3_usesBySchool, Cond.instanceMethod yX3_usesBySchool, Cond.selects RX3 yX3_usesBySchool yX3_usesBySchool, Cond.code yX3_usesBySchool cX3_usesBySchool 4 (some .int), Cond.static yX4_classOf, Cond.code yX4_classOf cX4_classOf 1 (some .int), Cond.methodLink RX3 76 yX3_usesByClass, Cond.instanceMethod yX3_usesByClass, Cond.selects RX3 yX3_usesByClass yX3_usesByClass, Cond.code yX3_usesByClass cX3_usesByClass 4 (some .int), Cond.methodLink RX3 91 yX3_standingOf]
def wsX4_bestExcuse_r3 : List Cond := [Cond.instanceMethod yX3_standingOf, Cond.selects RX3 yX3_standingOf yX3_standingOf, Cond.code yX3_standingOf cX3_standingOf 3 (some .int), Cond.methodLink RX4 168 yX3_weightOf]
def wsX4_bestExcuse : List Cond := .code yX4_bestExcuse cX4_bestExcuse 7 (some .int) :: ((wsX4_bestExcuse_r1 ++ (wsX4_bestExcuse_r2 ++ wsX4_bestExcuse_r3)) ++ wsX40 ++ wsX30)
def wsX4_bestWitness_r1 : List Cond := [Cond.fieldLink RX4 10 "ExcuseTariffs" "school" "LExcuseTariffs$School;", Cond.fieldLink RX4 141 "ExcuseTariffs$School" "credits" "[I", Cond.methodLink RX4 88 yX4_isPupil, Cond.static yX4_isPupil, Cond.initialized RX4, Cond.code yX4_isPupil cX4_isPupil 1 (some .boolean), Cond.methodLink RX4 49 yX4_isWithin, Cond.static yX4_isWithin, Cond.code yX4_isWithin cX4_isWithin 3 (some .boolean), Cond.methodLink RX4 74 yX3_hasExcuse, Cond.instanceMethod yX3_hasExcuse, Cond.selects RX3 yX3_hasExcuse yX3_hasExcuse, Cond.initialized RX3, Cond.code yX3_hasExcuse cX3_hasExcuse 2 (some .boolean), Cond.fieldLink RX3 18 "ExcuseTariffs$School" "excuses" "I", Cond.methodLink RX4 168 yX3_weightOf, Cond.instanceMethod yX3_weightOf, Cond.selects RX3 yX3_weightOf yX3_weightOf, Cond.code yX3_weightOf cX3_weightOf 6 (some .int), Cond.fieldLink RX3 25 "ExcuseTariffs$School" "worths" "[I", Cond.fieldLink RX3 13 "ExcuseTariffs$School" "settings" "[I", Cond.fieldLink RX3 52 "ExcuseTariffs$School" "grudges" "[I", Cond.methodLink RX3 88 yX3_noveltyFor, Cond.instanceMethod yX3_noveltyFor]
def wsX4_bestWitness_r2 : List Cond := [Cond.selects RX3 yX3_noveltyFor yX3_noveltyFor, Cond.code yX3_noveltyFor cX3_noveltyFor 4 (some .int), Cond.methodLink RX3 79 Lib.Math.max.name, Cond.static Lib.Math.max.name, Cond.initialized "java/lang/Math", Cond.code Lib.Math.max.name Lib.Math.max.code 2 (some .int), Cond.methodLink RX3 69 yX3_usesBySchool, Cond.instanceMethod yX3_usesBySchool, Cond.selects RX3 yX3_usesBySchool yX3_usesBySchool, Cond.code yX3_usesBySchool cX3_usesBySchool 4 (some .int), Cond.fieldLink RX3 31 "ExcuseTariffs$School" "uses" "[I", Cond.static yX4_classOf, Cond.code yX4_classOf cX4_classOf 1 (some .int), Cond.methodLink RX3 76 yX3_usesByClass, Cond.instanceMethod yX3_usesByClass, Cond.selects RX3 yX3_usesByClass yX3_usesByClass, Cond.code yX3_usesByClass cX3_usesByClass 4 (some .int), Cond.methodLink RX3 91 yX3_standingOf, Cond.instanceMethod yX3_standingOf, Cond.selects RX3 yX3_standingOf yX3_standingOf, Cond.code yX3_standingOf cX3_standingOf 3 (some .int), Cond.fieldLink RX3 34 "ExcuseTariffs$School" "credits" "[I"]
def wsX4_bestWitness : List Cond := .code yX4_bestWitness cX4_bestWitness 8 (some .int) :: ((wsX4_bestWitness_r1 ++ wsX4_bestWitness_r2) ++ wsX40 ++ wsX30)
def wsX4_mostMinutes_r1 : List Cond := [Cond.fieldLink RX4 10 "ExcuseTariffs" "school" "LExcuseTariffs$School;", Cond.methodLink RX4 88 yX4_isPupil, Cond.static yX4_isPupil, Cond.initialized RX4, Cond.code yX4_isPupil cX4_isPupil 1 (some .boolean), Cond.methodLink RX4 49 yX4_isWithin, Cond.static yX4_isWithin, Cond.code yX4_isWithin cX4_isWithin 3 (some .boolean), Cond.methodLink RX4 74 yX3_hasExcuse, Cond.instanceMethod yX3_hasExcuse, Cond.selects RX3 yX3_hasExcuse yX3_hasExcuse, Cond.initialized RX3, Cond.code yX3_hasExcuse cX3_hasExcuse 2 (some .boolean), Cond.fieldLink RX3 18 "ExcuseTariffs$School" "excuses" "I", Cond.methodLink RX4 165 yX3_reasonAgainst, Cond.instanceMethod yX3_reasonAgainst, Cond.selects RX3 yX3_reasonAgainst yX3_reasonAgainst, Cond.code yX3_reasonAgainst cX3_reasonAgainst 5 (some .int), Cond.fieldLink RX3 13 "ExcuseTariffs$School" "settings" "[I", Cond.fieldLink RX3 49 "ExcuseTariffs$School" "latestKinds" "[I", Cond.fieldLink RX3 22 "ExcuseTariffs$School" "kinds" "[I", Cond.fieldLink RX3 34 "ExcuseTariffs$School" "credits" "[I", Cond.methodLink RX3 65 yX3_usesOf, Cond.instanceMethod yX3_usesOf]
def wsX4_mostMinutes_r2 : List Cond := [Cond.selects RX3 yX3_usesOf yX3_usesOf, Cond.code yX3_usesOf cX3_usesOf 3 (some .int), Cond.fieldLink RX3 31 "ExcuseTariffs$School" "uses" "[I", Cond.methodLink RX3 94 yX3_weightOf, Cond.instanceMethod yX3_weightOf, Cond.selects RX3 yX3_weightOf yX3_weightOf, Cond.code yX3_weightOf cX3_weightOf 6 (some .int), Cond.fieldLink RX3 25 "ExcuseTariffs$School" "worths" "[I", Cond.fieldLink RX3 52 "ExcuseTariffs$School" "grudges" "[I", Cond.methodLink RX3 88 yX3_noveltyFor, Cond.instanceMethod yX3_noveltyFor, Cond.selects RX3 yX3_noveltyFor yX3_noveltyFor, Cond.code yX3_noveltyFor cX3_noveltyFor 4 (some .int), Cond.methodLink RX3 79 Lib.Math.max.name, Cond.static Lib.Math.max.name, Cond.initialized "java/lang/Math", Cond.code Lib.Math.max.name Lib.Math.max.code 2 (some .int), Cond.methodLink RX3 69 yX3_usesBySchool, Cond.instanceMethod yX3_usesBySchool, Cond.selects RX3 yX3_usesBySchool yX3_usesBySchool, Cond.code yX3_usesBySchool cX3_usesBySchool 4 (some .int), Cond.static yX4_classOf, Cond.code yX4_classOf cX4_classOf 1 (some .int), Cond.methodLink RX3 76 yX3_usesByClass]
def wsX4_mostMinutes_r3 : List Cond := [Cond.instanceMethod yX3_usesByClass, Cond.selects RX3 yX3_usesByClass yX3_usesByClass, Cond.code yX3_usesByClass cX3_usesByClass 4 (some .int), Cond.methodLink RX3 91 yX3_standingOf, Cond.instanceMethod yX3_standingOf, Cond.selects RX3 yX3_standingOf yX3_standingOf, Cond.code yX3_standingOf cX3_standingOf 3 (some .int)]
def wsX4_mostMinutes : List Cond := .code yX4_mostMinutes cX4_mostMinutes 4 (some .int) :: ((wsX4_mostMinutes_r1 ++ (wsX4_mostMinutes_r2 ++ wsX4_mostMinutes_r3)) ++ wsX40 ++ wsX30)
def wsX4_codeAt : List Cond := .code yX4_codeAt cX4_codeAt 3 (some .int) :: ([])
def wsX4_charactersIn : List Cond := .code yX4_charactersIn cX4_charactersIn 4 (some .int) :: ([.methodLink RX4 187 yX4_codeAt, .static yX4_codeAt, .initialized RX4, .code yX4_codeAt cX4_codeAt 3 (some .int), .methodLink RX4 49 yX4_isWithin, .static yX4_isWithin, .code yX4_isWithin cX4_isWithin 3 (some .boolean)])
def wsX4_put : List Cond := .code yX4_put cX4_put 5 (some .int) :: ([.fieldLink RX4 34 "ExcuseTariffs" "pad" "LExcuseTariffs$Pad;", .fieldLink RX4 114 "ExcuseTariffs$Pad" "length" "I", .methodLink RX4 183 yX4_charactersIn, .static yX4_charactersIn, .initialized RX4, .code yX4_charactersIn cX4_charactersIn 4 (some .int), .methodLink RX4 187 yX4_codeAt, .static yX4_codeAt, .code yX4_codeAt cX4_codeAt 3 (some .int), .methodLink RX4 49 yX4_isWithin, .static yX4_isWithin, .code yX4_isWithin cX4_isWithin 3 (some .boolean), .methodLink RX4 191 yX1_append, .instanceMethod yX1_append, .selects RX1 yX1_append yX1_append, .initialized RX1, .code yX1_append cX1_append 2 none, .fieldLink RX1 15 "ExcuseTariffs$Pad" "length" "I", .fieldLink RX1 9 "ExcuseTariffs$Pad" "characters" "[C"] ++ wsX40 ++ wsX10)
def wsX4_wipe : List Cond := .code yX4_wipe cX4_wipe 2 (some .int) :: ([.fieldLink RX4 34 "ExcuseTariffs" "pad" "LExcuseTariffs$Pad;", .fieldLink RX4 114 "ExcuseTariffs$Pad" "length" "I"] ++ wsX40 ++ wsX10)
def wsX4_undo_r1 : List Cond := [Cond.fieldLink RX4 19 "ExcuseTariffs" "history" "LExcuseTariffs$History;", Cond.fieldLink RX4 180 "ExcuseTariffs$History" "kept" "I", Cond.fieldLink RX4 10 "ExcuseTariffs" "school" "LExcuseTariffs$School;", Cond.methodLink RX4 199 yX0_takeBack, Cond.instanceMethod yX0_takeBack, Cond.selects RX0 yX0_takeBack yX0_takeBack, Cond.initialized RX0, Cond.code yX0_takeBack cX0_takeBack 2 none, Cond.fieldLink RX0 17 "ExcuseTariffs$History" "next" "I", Cond.fieldLink RX0 21 "ExcuseTariffs$History" "kept" "I", Cond.fieldLink RX0 11 "ExcuseTariffs$History" "states" "[LExcuseTariffs$School;", Cond.methodLink RX0 25 yX3_become, Cond.instanceMethod yX3_become, Cond.selects RX3 yX3_become yX3_become, Cond.initialized RX3, Cond.code yX3_become cX3_become 2 none, Cond.fieldLink RX3 13 "ExcuseTariffs$School" "settings" "[I", Cond.fieldLink RX3 18 "ExcuseTariffs$School" "excuses" "I", Cond.fieldLink RX3 22 "ExcuseTariffs$School" "kinds" "[I", Cond.fieldLink RX3 25 "ExcuseTariffs$School" "worths" "[I", Cond.fieldLink RX3 28 "ExcuseTariffs$School" "usesInAllTerms" "[I", Cond.fieldLink RX3 31 "ExcuseTariffs$School" "uses" "[I", Cond.fieldLink RX3 34 "ExcuseTariffs$School" "credits" "[I", Cond.fieldLink RX3 37 "ExcuseTariffs$School" "fines" "[I"]
def wsX4_undo_r2 : List Cond := [Cond.fieldLink RX3 40 "ExcuseTariffs$School" "paid" "[I", Cond.fieldLink RX3 43 "ExcuseTariffs$School" "stamps" "[I", Cond.fieldLink RX3 46 "ExcuseTariffs$School" "refusals" "[I", Cond.fieldLink RX3 49 "ExcuseTariffs$School" "latestKinds" "[I", Cond.fieldLink RX3 52 "ExcuseTariffs$School" "grudges" "[I", Cond.fieldLink RX3 55 "ExcuseTariffs$School" "refusedFor" "[I", Cond.fieldLink RX3 58 "ExcuseTariffs$School" "termsEnded" "I", Cond.static yX4_copy, Cond.initialized RX4, Cond.code yX4_copy cX4_copy 2 none, Cond.methodLink RX4 217 Lib.Math.min.name, Cond.static Lib.Math.min.name, Cond.initialized "java/lang/Math", Cond.code Lib.Math.min.name Lib.Math.min.code 2 (some .int), Cond.methodLink RX4 222 arraycopyName, Cond.native arraycopyName, Cond.static arraycopyName, Cond.initialized "java/lang/System"]
def wsX4_undo : List Cond := .code yX4_undo cX4_undo 1 (some .int) :: ((wsX4_undo_r1 ++ wsX4_undo_r2) ++ wsX40 ++ wsX00 ++ wsX30)
def wsX4_save_r1 : List Cond := [Cond.fieldLink RX4 23 "ExcuseTariffs" "slots" "[LExcuseTariffs$School;", Cond.fieldLink RX4 10 "ExcuseTariffs" "school" "LExcuseTariffs$School;", Cond.fieldLink RX4 27 "ExcuseTariffs" "saved" "[Z", Cond.fieldLink RX4 174 "ExcuseTariffs$School" "termsEnded" "I", Cond.methodLink RX4 49 yX4_isWithin, Cond.static yX4_isWithin, Cond.initialized RX4, Cond.code yX4_isWithin cX4_isWithin 3 (some .boolean), Cond.methodLink RX4 202 yX3_become, Cond.instanceMethod yX3_become, Cond.selects RX3 yX3_become yX3_become, Cond.initialized RX3, Cond.code yX3_become cX3_become 2 none, Cond.fieldLink RX3 13 "ExcuseTariffs$School" "settings" "[I", Cond.fieldLink RX3 18 "ExcuseTariffs$School" "excuses" "I", Cond.fieldLink RX3 22 "ExcuseTariffs$School" "kinds" "[I", Cond.fieldLink RX3 25 "ExcuseTariffs$School" "worths" "[I", Cond.fieldLink RX3 28 "ExcuseTariffs$School" "usesInAllTerms" "[I", Cond.fieldLink RX3 31 "ExcuseTariffs$School" "uses" "[I", Cond.fieldLink RX3 34 "ExcuseTariffs$School" "credits" "[I", Cond.fieldLink RX3 37 "ExcuseTariffs$School" "fines" "[I", Cond.fieldLink RX3 40 "ExcuseTariffs$School" "paid" "[I", Cond.fieldLink RX3 43 "ExcuseTariffs$School" "stamps" "[I", Cond.fieldLink RX3 46 "ExcuseTariffs$School" "refusals" "[I"]
def wsX4_save_r2 : List Cond := [Cond.fieldLink RX3 49 "ExcuseTariffs$School" "latestKinds" "[I", Cond.fieldLink RX3 52 "ExcuseTariffs$School" "grudges" "[I", Cond.fieldLink RX3 55 "ExcuseTariffs$School" "refusedFor" "[I", Cond.fieldLink RX3 58 "ExcuseTariffs$School" "termsEnded" "I", Cond.static yX4_copy, Cond.code yX4_copy cX4_copy 2 none, Cond.methodLink RX4 217 Lib.Math.min.name, Cond.static Lib.Math.min.name, Cond.initialized "java/lang/Math", Cond.code Lib.Math.min.name Lib.Math.min.code 2 (some .int), Cond.methodLink RX4 222 arraycopyName, Cond.native arraycopyName, Cond.static arraycopyName, Cond.initialized "java/lang/System"]
def wsX4_save : List Cond := .code yX4_save cX4_save 2 (some .int) :: ((wsX4_save_r1 ++ wsX4_save_r2) ++ wsX40 ++ wsX30)
def wsX4_restore_r1 : List Cond := [Cond.fieldLink RX4 27 "ExcuseTariffs" "saved" "[Z", Cond.fieldLink RX4 19 "ExcuseTariffs" "history" "LExcuseTariffs$History;", Cond.fieldLink RX4 10 "ExcuseTariffs" "school" "LExcuseTariffs$School;", Cond.fieldLink RX4 23 "ExcuseTariffs" "slots" "[LExcuseTariffs$School;", Cond.fieldLink RX4 174 "ExcuseTariffs$School" "termsEnded" "I", Cond.methodLink RX4 49 yX4_isWithin, Cond.static yX4_isWithin, Cond.initialized RX4, Cond.code yX4_isWithin cX4_isWithin 3 (some .boolean), Cond.methodLink RX4 59 yX0_keep, Cond.instanceMethod yX0_keep, Cond.selects RX0 yX0_keep yX0_keep, Cond.initialized RX0, Cond.code yX0_keep cX0_keep 2 none, Cond.fieldLink RX0 11 "ExcuseTariffs$History" "states" "[LExcuseTariffs$School;", Cond.fieldLink RX0 17 "ExcuseTariffs$History" "next" "I", Cond.fieldLink RX0 21 "ExcuseTariffs$History" "kept" "I", Cond.methodLink RX0 29 Lib.Math.min.name, Cond.static Lib.Math.min.name, Cond.initialized "java/lang/Math", Cond.code Lib.Math.min.name Lib.Math.min.code 2 (some .int), Cond.methodLink RX0 25 yX3_become, Cond.instanceMethod yX3_become, Cond.selects RX3 yX3_become yX3_become]
def wsX4_restore_r2 : List Cond := [Cond.initialized RX3, Cond.code yX3_become cX3_become 2 none, Cond.fieldLink RX3 13 "ExcuseTariffs$School" "settings" "[I", Cond.fieldLink RX3 18 "ExcuseTariffs$School" "excuses" "I", Cond.fieldLink RX3 22 "ExcuseTariffs$School" "kinds" "[I", Cond.fieldLink RX3 25 "ExcuseTariffs$School" "worths" "[I", Cond.fieldLink RX3 28 "ExcuseTariffs$School" "usesInAllTerms" "[I", Cond.fieldLink RX3 31 "ExcuseTariffs$School" "uses" "[I", Cond.fieldLink RX3 34 "ExcuseTariffs$School" "credits" "[I", Cond.fieldLink RX3 37 "ExcuseTariffs$School" "fines" "[I", Cond.fieldLink RX3 40 "ExcuseTariffs$School" "paid" "[I", Cond.fieldLink RX3 43 "ExcuseTariffs$School" "stamps" "[I", Cond.fieldLink RX3 46 "ExcuseTariffs$School" "refusals" "[I", Cond.fieldLink RX3 49 "ExcuseTariffs$School" "latestKinds" "[I", Cond.fieldLink RX3 52 "ExcuseTariffs$School" "grudges" "[I", Cond.fieldLink RX3 55 "ExcuseTariffs$School" "refusedFor" "[I", Cond.fieldLink RX3 58 "ExcuseTariffs$School" "termsEnded" "I", Cond.static yX4_copy, Cond.code yX4_copy cX4_copy 2 none, Cond.methodLink RX4 217 Lib.Math.min.name, Cond.methodLink RX4 222 arraycopyName, Cond.native arraycopyName, Cond.static arraycopyName, Cond.initialized "java/lang/System"]
def wsX4_restore_r3 : List Cond := [Cond.methodLink RX4 202 yX3_become]
def wsX4_restore : List Cond := .code yX4_restore cX4_restore 2 (some .int) :: ((wsX4_restore_r1 ++ (wsX4_restore_r2 ++ wsX4_restore_r3)) ++ wsX40 ++ wsX30 ++ wsX00)
def wsX5_lay : List Cond := .code yX5_lay cX5_lay 4 none :: ([.fieldLink RX5 7 "ExcuseTariffsModel" "z" "[I"] ++ wsX50)
def wsX5_init : List Cond := .code yX5_init cX5_init 2 none :: ([.methodLink RX5 1 objectInit, .instanceMethod objectInit, .code objectInit ⟨#[0xb1]⟩ 1 none, .arrayClass .int, .fieldLink RX5 7 "ExcuseTariffsModel" "z" "[I", .fieldLink RX5 13 "ExcuseTariffsModel" "past" "[I", .fieldLink RX5 16 "ExcuseTariffsModel" "slots" "[I", .arrayClass .boolean, .fieldLink RX5 19 "ExcuseTariffsModel" "isSaved" "[Z", .fieldLink RX5 23 "ExcuseTariffsModel" "pad" "[I", .methodLink RX5 26 yX5_lay, .instanceMethod yX5_lay, .selects RX5 yX5_lay yX5_lay, .initialized RX5, .code yX5_lay cX5_lay 4 none] ++ wsX50)
def wsX5_in : List Cond := .code yX5_in cX5_in 3 (some .boolean) :: ([])
def wsX5_of : List Cond := .code yX5_of cX5_of 3 (some .int) :: ([.fieldLink RX5 7 "ExcuseTariffsModel" "z" "[I"] ++ wsX50)
def wsX5_ofExcuse : List Cond := .code yX5_ofExcuse cX5_ofExcuse 3 (some .int) :: ([.fieldLink RX5 7 "ExcuseTariffsModel" "z" "[I"] ++ wsX50)
def wsX5_isExcuse : List Cond := .code yX5_isExcuse cX5_isExcuse 2 (some .boolean) :: ([.fieldLink RX5 7 "ExcuseTariffsModel" "z" "[I", .methodLink RX5 30 yX5_in, .static yX5_in, .initialized RX5, .code yX5_in cX5_in 3 (some .boolean)] ++ wsX50)
def wsX5_isPupil : List Cond := .code yX5_isPupil cX5_isPupil 1 (some .boolean) :: ([.methodLink RX5 30 yX5_in, .static yX5_in, .initialized RX5, .code yX5_in cX5_in 3 (some .boolean)])
def wsX5_copyState : List Cond := .code yX5_copyState cX5_copyState 5 none :: ([])
def wsX5_record : List Cond := .code yX5_record cX5_record 2 none :: ([.fieldLink RX5 34 "ExcuseTariffsModel" "states" "I", .fieldLink RX5 13 "ExcuseTariffsModel" "past" "[I", .fieldLink RX5 7 "ExcuseTariffsModel" "z" "[I", .methodLink RX5 38 yX5_copyState, .static yX5_copyState, .initialized RX5, .code yX5_copyState cX5_copyState 5 none] ++ wsX50)
def wsX5_undo : List Cond := .code yX5_undo cX5_undo 1 (some .int) :: ([.fieldLink RX5 34 "ExcuseTariffsModel" "states" "I", .fieldLink RX5 13 "ExcuseTariffsModel" "past" "[I", .fieldLink RX5 7 "ExcuseTariffsModel" "z" "[I", .methodLink RX5 38 yX5_copyState, .static yX5_copyState, .initialized RX5, .code yX5_copyState cX5_copyState 5 none] ++ wsX50)
def wsX5_save : List Cond := .code yX5_save cX5_save 2 (some .int) :: ([.fieldLink RX5 7 "ExcuseTariffsModel" "z" "[I", .fieldLink RX5 16 "ExcuseTariffsModel" "slots" "[I", .fieldLink RX5 19 "ExcuseTariffsModel" "isSaved" "[Z", .methodLink RX5 30 yX5_in, .static yX5_in, .initialized RX5, .code yX5_in cX5_in 3 (some .boolean), .methodLink RX5 38 yX5_copyState, .static yX5_copyState, .code yX5_copyState cX5_copyState 5 none] ++ wsX50)
def wsX5_restore : List Cond := .code yX5_restore cX5_restore 2 (some .int) :: ([.fieldLink RX5 19 "ExcuseTariffsModel" "isSaved" "[Z", .fieldLink RX5 16 "ExcuseTariffsModel" "slots" "[I", .fieldLink RX5 7 "ExcuseTariffsModel" "z" "[I", .methodLink RX5 30 yX5_in, .static yX5_in, .initialized RX5, .code yX5_in cX5_in 3 (some .boolean), .methodLink RX5 42 yX5_record, .instanceMethod yX5_record, .selects RX5 yX5_record yX5_record, .code yX5_record cX5_record 2 none, .fieldLink RX5 34 "ExcuseTariffsModel" "states" "I", .fieldLink RX5 13 "ExcuseTariffsModel" "past" "[I", .methodLink RX5 38 yX5_copyState, .static yX5_copyState, .code yX5_copyState cX5_copyState 5 none] ++ wsX50)
def wsX5_uses : List Cond := .code yX5_uses cX5_uses 3 (some .int) :: ([.fieldLink RX5 7 "ExcuseTariffsModel" "z" "[I"] ++ wsX50)
def wsX5_usesBySchool : List Cond := .code yX5_usesBySchool cX5_usesBySchool 4 (some .int) :: ([.methodLink RX5 45 yX5_uses, .instanceMethod yX5_uses, .selects RX5 yX5_uses yX5_uses, .initialized RX5, .code yX5_uses cX5_uses 3 (some .int), .fieldLink RX5 7 "ExcuseTariffsModel" "z" "[I"] ++ wsX50)
def wsX5_usesByClass : List Cond := .code yX5_usesByClass cX5_usesByClass 4 (some .int) :: ([.methodLink RX5 45 yX5_uses, .instanceMethod yX5_uses, .selects RX5 yX5_uses yX5_uses, .initialized RX5, .code yX5_uses cX5_uses 3 (some .int), .fieldLink RX5 7 "ExcuseTariffsModel" "z" "[I"] ++ wsX50)
def wsX5_noveltyOf : List Cond := .code yX5_noveltyOf cX5_noveltyOf 4 (some .int) :: ([.fieldLink RX5 7 "ExcuseTariffsModel" "z" "[I", .methodLink RX5 49 yX5_usesBySchool, .instanceMethod yX5_usesBySchool, .selects RX5 yX5_usesBySchool yX5_usesBySchool, .initialized RX5, .code yX5_usesBySchool cX5_usesBySchool 4 (some .int), .methodLink RX5 45 yX5_uses, .instanceMethod yX5_uses, .selects RX5 yX5_uses yX5_uses, .code yX5_uses cX5_uses 3 (some .int), .methodLink RX5 53 yX5_usesByClass, .instanceMethod yX5_usesByClass, .selects RX5 yX5_usesByClass yX5_usesByClass, .code yX5_usesByClass cX5_usesByClass 4 (some .int)] ++ wsX50)
def wsX5_grudge : List Cond := .code yX5_grudge cX5_grudge 2 (some .int) :: ([.fieldLink RX5 7 "ExcuseTariffsModel" "z" "[I"] ++ wsX50)
def wsX5_standsBy : List Cond := .code yX5_standsBy cX5_standsBy 4 (some .int) :: ([.methodLink RX5 56 yX5_of, .instanceMethod yX5_of, .selects RX5 yX5_of yX5_of, .initialized RX5, .code yX5_of cX5_of 3 (some .int), .fieldLink RX5 7 "ExcuseTariffsModel" "z" "[I"] ++ wsX50)
def wsX5_weightOf_r1 : List Cond := [Cond.fieldLink RX5 7 "ExcuseTariffsModel" "z" "[I", Cond.methodLink RX5 59 yX5_ofExcuse, Cond.instanceMethod yX5_ofExcuse, Cond.selects RX5 yX5_ofExcuse yX5_ofExcuse, Cond.initialized RX5, Cond.code yX5_ofExcuse cX5_ofExcuse 3 (some .int), Cond.methodLink RX5 62 yX5_noveltyOf, Cond.instanceMethod yX5_noveltyOf, Cond.selects RX5 yX5_noveltyOf yX5_noveltyOf, Cond.code yX5_noveltyOf cX5_noveltyOf 4 (some .int), Cond.methodLink RX5 49 yX5_usesBySchool, Cond.instanceMethod yX5_usesBySchool, Cond.selects RX5 yX5_usesBySchool yX5_usesBySchool, Cond.code yX5_usesBySchool cX5_usesBySchool 4 (some .int), Cond.methodLink RX5 45 yX5_uses, Cond.instanceMethod yX5_uses, Cond.selects RX5 yX5_uses yX5_uses, Cond.code yX5_uses cX5_uses 3 (some .int), Cond.methodLink RX5 53 yX5_usesByClass, Cond.instanceMethod yX5_usesByClass, Cond.selects RX5 yX5_usesByClass yX5_usesByClass, Cond.code yX5_usesByClass cX5_usesByClass 4 (some .int), Cond.methodLink RX5 65 yX5_grudge, Cond.instanceMethod yX5_grudge]
def wsX5_weightOf_r2 : List Cond := [Cond.selects RX5 yX5_grudge yX5_grudge, Cond.code yX5_grudge cX5_grudge 2 (some .int), Cond.methodLink RX5 68 yX5_standsBy, Cond.instanceMethod yX5_standsBy, Cond.selects RX5 yX5_standsBy yX5_standsBy, Cond.code yX5_standsBy cX5_standsBy 4 (some .int), Cond.methodLink RX5 56 yX5_of, Cond.instanceMethod yX5_of, Cond.selects RX5 yX5_of yX5_of, Cond.code yX5_of cX5_of 3 (some .int)]
def wsX5_weightOf : List Cond := .code yX5_weightOf cX5_weightOf 5 (some .int) :: ((wsX5_weightOf_r1 ++ wsX5_weightOf_r2) ++ wsX50)
def wsX5_reason_r1 : List Cond := [Cond.fieldLink RX5 7 "ExcuseTariffsModel" "z" "[I", Cond.methodLink RX5 45 yX5_uses, Cond.instanceMethod yX5_uses, Cond.selects RX5 yX5_uses yX5_uses, Cond.initialized RX5, Cond.code yX5_uses cX5_uses 3 (some .int), Cond.methodLink RX5 56 yX5_of, Cond.instanceMethod yX5_of, Cond.selects RX5 yX5_of yX5_of, Cond.code yX5_of cX5_of 3 (some .int), Cond.methodLink RX5 59 yX5_ofExcuse, Cond.instanceMethod yX5_ofExcuse, Cond.selects RX5 yX5_ofExcuse yX5_ofExcuse, Cond.code yX5_ofExcuse cX5_ofExcuse 3 (some .int), Cond.methodLink RX5 71 yX5_weightOf, Cond.instanceMethod yX5_weightOf, Cond.selects RX5 yX5_weightOf yX5_weightOf, Cond.code yX5_weightOf cX5_weightOf 5 (some .int), Cond.methodLink RX5 62 yX5_noveltyOf, Cond.instanceMethod yX5_noveltyOf, Cond.selects RX5 yX5_noveltyOf yX5_noveltyOf, Cond.code yX5_noveltyOf cX5_noveltyOf 4 (some .int), Cond.methodLink RX5 49 yX5_usesBySchool, Cond.instanceMethod yX5_usesBySchool]
def wsX5_reason_r2 : List Cond := [Cond.selects RX5 yX5_usesBySchool yX5_usesBySchool, Cond.code yX5_usesBySchool cX5_usesBySchool 4 (some .int), Cond.methodLink RX5 53 yX5_usesByClass, Cond.instanceMethod yX5_usesByClass, Cond.selects RX5 yX5_usesByClass yX5_usesByClass, Cond.code yX5_usesByClass cX5_usesByClass 4 (some .int), Cond.methodLink RX5 65 yX5_grudge, Cond.instanceMethod yX5_grudge, Cond.selects RX5 yX5_grudge yX5_grudge, Cond.code yX5_grudge cX5_grudge 2 (some .int), Cond.methodLink RX5 68 yX5_standsBy, Cond.instanceMethod yX5_standsBy, Cond.selects RX5 yX5_standsBy yX5_standsBy, Cond.code yX5_standsBy cX5_standsBy 4 (some .int)]
def wsX5_reason : List Cond := .code yX5_reason cX5_reason 5 (some .int) :: ((wsX5_reason_r1 ++ wsX5_reason_r2) ++ wsX50)
def wsX5_isValue : List Cond := .code yX5_isValue cX5_isValue 2 (some .boolean) :: ([.methodLink RX5 30 yX5_in, .static yX5_in, .initialized RX5, .code yX5_in cX5_in 3 (some .boolean)])
def wsX5_set : List Cond := .code yX5_set cX5_set 4 (some .int) :: ([.fieldLink RX5 7 "ExcuseTariffsModel" "z" "[I", .methodLink RX5 75 yX5_isValue, .static yX5_isValue, .initialized RX5, .code yX5_isValue cX5_isValue 2 (some .boolean), .methodLink RX5 30 yX5_in, .static yX5_in, .code yX5_in cX5_in 3 (some .boolean), .methodLink RX5 42 yX5_record, .instanceMethod yX5_record, .selects RX5 yX5_record yX5_record, .code yX5_record cX5_record 2 none, .fieldLink RX5 34 "ExcuseTariffsModel" "states" "I", .fieldLink RX5 13 "ExcuseTariffsModel" "past" "[I", .methodLink RX5 38 yX5_copyState, .static yX5_copyState, .code yX5_copyState cX5_copyState 5 none] ++ wsX50)
def wsX5_add : List Cond := .code yX5_add cX5_add 4 (some .int) :: ([.fieldLink RX5 7 "ExcuseTariffsModel" "z" "[I", .methodLink RX5 30 yX5_in, .static yX5_in, .initialized RX5, .code yX5_in cX5_in 3 (some .boolean), .methodLink RX5 42 yX5_record, .instanceMethod yX5_record, .selects RX5 yX5_record yX5_record, .code yX5_record cX5_record 2 none, .fieldLink RX5 34 "ExcuseTariffsModel" "states" "I", .fieldLink RX5 13 "ExcuseTariffsModel" "past" "[I", .methodLink RX5 38 yX5_copyState, .static yX5_copyState, .code yX5_copyState cX5_copyState 5 none] ++ wsX50)
def wsX5_worth : List Cond := .code yX5_worth cX5_worth 4 (some .int) :: ([.fieldLink RX5 7 "ExcuseTariffsModel" "z" "[I", .methodLink RX5 79 yX5_isExcuse, .instanceMethod yX5_isExcuse, .selects RX5 yX5_isExcuse yX5_isExcuse, .initialized RX5, .code yX5_isExcuse cX5_isExcuse 2 (some .boolean), .methodLink RX5 30 yX5_in, .static yX5_in, .code yX5_in cX5_in 3 (some .boolean), .methodLink RX5 42 yX5_record, .instanceMethod yX5_record, .selects RX5 yX5_record yX5_record, .code yX5_record cX5_record 2 none, .fieldLink RX5 34 "ExcuseTariffsModel" "states" "I", .fieldLink RX5 13 "ExcuseTariffsModel" "past" "[I", .methodLink RX5 38 yX5_copyState, .static yX5_copyState, .code yX5_copyState cX5_copyState 5 none, .methodLink RX5 59 yX5_ofExcuse, .instanceMethod yX5_ofExcuse, .selects RX5 yX5_ofExcuse yX5_ofExcuse, .code yX5_ofExcuse cX5_ofExcuse 3 (some .int)] ++ wsX50)
def wsX5_whyNotOffer : List Cond := .code yX5_whyNotOffer cX5_whyNotOffer 5 (some .int) :: ([.methodLink RX5 83 yX5_isPupil, .static yX5_isPupil, .initialized RX5, .code yX5_isPupil cX5_isPupil 1 (some .boolean), .methodLink RX5 30 yX5_in, .static yX5_in, .code yX5_in cX5_in 3 (some .boolean), .methodLink RX5 79 yX5_isExcuse, .instanceMethod yX5_isExcuse, .selects RX5 yX5_isExcuse yX5_isExcuse, .code yX5_isExcuse cX5_isExcuse 2 (some .boolean), .fieldLink RX5 7 "ExcuseTariffsModel" "z" "[I"] ++ wsX50)
def wsX5_angers : List Cond := .code yX5_angers cX5_angers 3 none :: ([.fieldLink RX5 7 "ExcuseTariffsModel" "z" "[I"] ++ wsX50)
def wsX5_loses : List Cond := .code yX5_loses cX5_loses 4 none :: ([.methodLink RX5 56 yX5_of, .instanceMethod yX5_of, .selects RX5 yX5_of yX5_of, .initialized RX5, .code yX5_of cX5_of 3 (some .int), .fieldLink RX5 7 "ExcuseTariffsModel" "z" "[I", .methodLink RX5 26 yX5_lay, .instanceMethod yX5_lay, .selects RX5 yX5_lay yX5_lay, .code yX5_lay cX5_lay 4 none] ++ wsX50)
def wsX5_offerNow_r1 : List Cond := [Cond.fieldLink RX5 7 "ExcuseTariffsModel" "z" "[I", Cond.methodLink RX5 86 yX5_reason, Cond.instanceMethod yX5_reason, Cond.selects RX5 yX5_reason yX5_reason, Cond.initialized RX5, Cond.code yX5_reason cX5_reason 5 (some .int), Cond.methodLink RX5 45 yX5_uses, Cond.instanceMethod yX5_uses, Cond.selects RX5 yX5_uses yX5_uses, Cond.code yX5_uses cX5_uses 3 (some .int), Cond.methodLink RX5 56 yX5_of, Cond.instanceMethod yX5_of, Cond.selects RX5 yX5_of yX5_of, Cond.code yX5_of cX5_of 3 (some .int), Cond.methodLink RX5 59 yX5_ofExcuse, Cond.instanceMethod yX5_ofExcuse, Cond.selects RX5 yX5_ofExcuse yX5_ofExcuse, Cond.code yX5_ofExcuse cX5_ofExcuse 3 (some .int), Cond.methodLink RX5 71 yX5_weightOf, Cond.instanceMethod yX5_weightOf, Cond.selects RX5 yX5_weightOf yX5_weightOf, Cond.code yX5_weightOf cX5_weightOf 5 (some .int), Cond.methodLink RX5 62 yX5_noveltyOf, Cond.instanceMethod yX5_noveltyOf]
def wsX5_offerNow_r2 : List Cond := [Cond.selects RX5 yX5_noveltyOf yX5_noveltyOf, Cond.code yX5_noveltyOf cX5_noveltyOf 4 (some .int), Cond.methodLink RX5 49 yX5_usesBySchool, Cond.instanceMethod yX5_usesBySchool, Cond.selects RX5 yX5_usesBySchool yX5_usesBySchool, Cond.code yX5_usesBySchool cX5_usesBySchool 4 (some .int), Cond.methodLink RX5 53 yX5_usesByClass, Cond.instanceMethod yX5_usesByClass, Cond.selects RX5 yX5_usesByClass yX5_usesByClass, Cond.code yX5_usesByClass cX5_usesByClass 4 (some .int), Cond.methodLink RX5 65 yX5_grudge, Cond.instanceMethod yX5_grudge, Cond.selects RX5 yX5_grudge yX5_grudge, Cond.code yX5_grudge cX5_grudge 2 (some .int), Cond.methodLink RX5 68 yX5_standsBy, Cond.instanceMethod yX5_standsBy, Cond.selects RX5 yX5_standsBy yX5_standsBy, Cond.code yX5_standsBy cX5_standsBy 4 (some .int), Cond.methodLink RX5 26 yX5_lay, Cond.instanceMethod yX5_lay, Cond.selects RX5 yX5_lay yX5_lay, Cond.code yX5_lay cX5_lay 4 none, Cond.methodLink RX5 89 yX5_angers, Cond.instanceMethod yX5_angers]
def wsX5_offerNow_r3 : List Cond := [Cond.selects RX5 yX5_angers yX5_angers, Cond.code yX5_angers cX5_angers 3 none, Cond.methodLink RX5 93 yX5_loses, Cond.instanceMethod yX5_loses, Cond.selects RX5 yX5_loses yX5_loses, Cond.code yX5_loses cX5_loses 4 none]
def wsX5_offerNow : List Cond := .code yX5_offerNow cX5_offerNow 6 (some .int) :: ((wsX5_offerNow_r1 ++ (wsX5_offerNow_r2 ++ wsX5_offerNow_r3)) ++ wsX50)
def wsX5_offer_r1 : List Cond := [Cond.methodLink RX5 97 yX5_whyNotOffer, Cond.instanceMethod yX5_whyNotOffer, Cond.selects RX5 yX5_whyNotOffer yX5_whyNotOffer, Cond.initialized RX5, Cond.code yX5_whyNotOffer cX5_whyNotOffer 5 (some .int), Cond.methodLink RX5 83 yX5_isPupil, Cond.static yX5_isPupil, Cond.code yX5_isPupil cX5_isPupil 1 (some .boolean), Cond.methodLink RX5 30 yX5_in, Cond.static yX5_in, Cond.code yX5_in cX5_in 3 (some .boolean), Cond.methodLink RX5 79 yX5_isExcuse, Cond.instanceMethod yX5_isExcuse, Cond.selects RX5 yX5_isExcuse yX5_isExcuse, Cond.code yX5_isExcuse cX5_isExcuse 2 (some .boolean), Cond.fieldLink RX5 7 "ExcuseTariffsModel" "z" "[I", Cond.methodLink RX5 42 yX5_record, Cond.instanceMethod yX5_record, Cond.selects RX5 yX5_record yX5_record, Cond.code yX5_record cX5_record 2 none, Cond.fieldLink RX5 34 "ExcuseTariffsModel" "states" "I", Cond.fieldLink RX5 13 "ExcuseTariffsModel" "past" "[I", Cond.methodLink RX5 38 yX5_copyState, Cond.static yX5_copyState]
def wsX5_offer_r2 : List Cond := [Cond.code yX5_copyState cX5_copyState 5 none, Cond.methodLink RX5 100 yX5_offerNow, Cond.instanceMethod yX5_offerNow, Cond.selects RX5 yX5_offerNow yX5_offerNow, Cond.code yX5_offerNow cX5_offerNow 6 (some .int), Cond.methodLink RX5 86 yX5_reason, Cond.instanceMethod yX5_reason, Cond.selects RX5 yX5_reason yX5_reason, Cond.code yX5_reason cX5_reason 5 (some .int), Cond.methodLink RX5 45 yX5_uses, Cond.instanceMethod yX5_uses, Cond.selects RX5 yX5_uses yX5_uses, Cond.code yX5_uses cX5_uses 3 (some .int), Cond.methodLink RX5 56 yX5_of, Cond.instanceMethod yX5_of, Cond.selects RX5 yX5_of yX5_of, Cond.code yX5_of cX5_of 3 (some .int), Cond.methodLink RX5 59 yX5_ofExcuse, Cond.instanceMethod yX5_ofExcuse, Cond.selects RX5 yX5_ofExcuse yX5_ofExcuse, Cond.code yX5_ofExcuse cX5_ofExcuse 3 (some .int), Cond.methodLink RX5 71 yX5_weightOf, Cond.instanceMethod yX5_weightOf, Cond.selects RX5 yX5_weightOf yX5_weightOf]
def wsX5_offer_r3 : List Cond := [Cond.code yX5_weightOf cX5_weightOf 5 (some .int), Cond.methodLink RX5 62 yX5_noveltyOf, Cond.instanceMethod yX5_noveltyOf, Cond.selects RX5 yX5_noveltyOf yX5_noveltyOf, Cond.code yX5_noveltyOf cX5_noveltyOf 4 (some .int), Cond.methodLink RX5 49 yX5_usesBySchool, Cond.instanceMethod yX5_usesBySchool, Cond.selects RX5 yX5_usesBySchool yX5_usesBySchool, Cond.code yX5_usesBySchool cX5_usesBySchool 4 (some .int), Cond.methodLink RX5 53 yX5_usesByClass, Cond.instanceMethod yX5_usesByClass, Cond.selects RX5 yX5_usesByClass yX5_usesByClass, Cond.code yX5_usesByClass cX5_usesByClass 4 (some .int), Cond.methodLink RX5 65 yX5_grudge, Cond.instanceMethod yX5_grudge, Cond.selects RX5 yX5_grudge yX5_grudge, Cond.code yX5_grudge cX5_grudge 2 (some .int), Cond.methodLink RX5 68 yX5_standsBy, Cond.instanceMethod yX5_standsBy, Cond.selects RX5 yX5_standsBy yX5_standsBy, Cond.code yX5_standsBy cX5_standsBy 4 (some .int), Cond.methodLink RX5 26 yX5_lay, Cond.instanceMethod yX5_lay, Cond.selects RX5 yX5_lay yX5_lay]
def wsX5_offer_r4 : List Cond := [Cond.code yX5_lay cX5_lay 4 none, Cond.methodLink RX5 89 yX5_angers, Cond.instanceMethod yX5_angers, Cond.selects RX5 yX5_angers yX5_angers, Cond.code yX5_angers cX5_angers 3 none, Cond.methodLink RX5 93 yX5_loses, Cond.instanceMethod yX5_loses, Cond.selects RX5 yX5_loses yX5_loses, Cond.code yX5_loses cX5_loses 4 none]
def wsX5_offer : List Cond := .code yX5_offer cX5_offer 6 (some .int) :: ((wsX5_offer_r1 ++ (wsX5_offer_r2 ++ (wsX5_offer_r3 ++ wsX5_offer_r4))) ++ wsX50)
def wsX5_pay_r1 : List Cond := [Cond.methodLink RX5 83 yX5_isPupil, Cond.static yX5_isPupil, Cond.initialized RX5, Cond.code yX5_isPupil cX5_isPupil 1 (some .boolean), Cond.methodLink RX5 30 yX5_in, Cond.static yX5_in, Cond.code yX5_in cX5_in 3 (some .boolean), Cond.methodLink RX5 56 yX5_of, Cond.instanceMethod yX5_of, Cond.selects RX5 yX5_of yX5_of, Cond.code yX5_of cX5_of 3 (some .int), Cond.fieldLink RX5 7 "ExcuseTariffsModel" "z" "[I", Cond.methodLink RX5 42 yX5_record, Cond.instanceMethod yX5_record, Cond.selects RX5 yX5_record yX5_record, Cond.code yX5_record cX5_record 2 none, Cond.fieldLink RX5 34 "ExcuseTariffsModel" "states" "I", Cond.fieldLink RX5 13 "ExcuseTariffsModel" "past" "[I", Cond.methodLink RX5 38 yX5_copyState, Cond.static yX5_copyState, Cond.code yX5_copyState cX5_copyState 5 none, Cond.methodLink RX5 26 yX5_lay, Cond.instanceMethod yX5_lay, Cond.selects RX5 yX5_lay yX5_lay]
def wsX5_pay_r2 : List Cond := [Cond.code yX5_lay cX5_lay 4 none]
def wsX5_pay : List Cond := .code yX5_pay cX5_pay 3 (some .int) :: ((wsX5_pay_r1 ++ wsX5_pay_r2) ++ wsX50)
def wsX5_endTerm : List Cond := .code yX5_endTerm cX5_endTerm 3 (some .int) :: ([.fieldLink RX5 7 "ExcuseTariffsModel" "z" "[I", .methodLink RX5 42 yX5_record, .instanceMethod yX5_record, .selects RX5 yX5_record yX5_record, .initialized RX5, .code yX5_record cX5_record 2 none, .fieldLink RX5 34 "ExcuseTariffsModel" "states" "I", .fieldLink RX5 13 "ExcuseTariffsModel" "past" "[I", .methodLink RX5 38 yX5_copyState, .static yX5_copyState, .code yX5_copyState cX5_copyState 5 none, .methodLink RX5 26 yX5_lay, .instanceMethod yX5_lay, .selects RX5 yX5_lay yX5_lay, .code yX5_lay cX5_lay 4 none, .methodLink RX5 56 yX5_of, .instanceMethod yX5_of, .selects RX5 yX5_of yX5_of, .code yX5_of cX5_of 3 (some .int)] ++ wsX50)
def wsX5_put : List Cond := .code yX5_put cX5_put 7 (some .int) :: ([.constantLong RX5 103 (255), .fieldLink RX5 105 "ExcuseTariffsModel" "typed" "I", .fieldLink RX5 23 "ExcuseTariffsModel" "pad" "[I", .methodLink RX5 30 yX5_in, .static yX5_in, .initialized RX5, .code yX5_in cX5_in 3 (some .boolean)] ++ wsX50)
def wsX5_wipe : List Cond := .code yX5_wipe cX5_wipe 2 (some .int) :: ([.fieldLink RX5 105 "ExcuseTariffsModel" "typed" "I"] ++ wsX50)
def wsX5_sees : List Cond := .code yX5_sees cX5_sees 3 (some .boolean) :: ([.fieldLink RX5 108 "ExcuseTariffsModel" "spot" "I", .fieldLink RX5 105 "ExcuseTariffsModel" "typed" "I", .fieldLink RX5 23 "ExcuseTariffsModel" "pad" "[I", .methodLink RX5 30 yX5_in, .static yX5_in, .initialized RX5, .code yX5_in cX5_in 3 (some .boolean)] ++ wsX50)
def wsX5_takes : List Cond := .code yX5_takes cX5_takes 3 (some .boolean) :: ([.fieldLink RX5 108 "ExcuseTariffsModel" "spot" "I", .methodLink RX5 111 yX5_sees, .instanceMethod yX5_sees, .selects RX5 yX5_sees yX5_sees, .initialized RX5, .code yX5_sees cX5_sees 3 (some .boolean), .fieldLink RX5 105 "ExcuseTariffsModel" "typed" "I", .fieldLink RX5 23 "ExcuseTariffsModel" "pad" "[I", .methodLink RX5 30 yX5_in, .static yX5_in, .code yX5_in cX5_in 3 (some .boolean)] ++ wsX50)
def wsX5_takesOne : List Cond := .code yX5_takesOne cX5_takesOne 3 (some .int) :: ([.fieldLink RX5 108 "ExcuseTariffsModel" "spot" "I", .fieldLink RX5 23 "ExcuseTariffsModel" "pad" "[I", .methodLink RX5 111 yX5_sees, .instanceMethod yX5_sees, .selects RX5 yX5_sees yX5_sees, .initialized RX5, .code yX5_sees cX5_sees 3 (some .boolean), .fieldLink RX5 105 "ExcuseTariffsModel" "typed" "I", .methodLink RX5 30 yX5_in, .static yX5_in, .code yX5_in cX5_in 3 (some .boolean)] ++ wsX50)
def wsX5_readMinutes : List Cond := .code yX5_readMinutes cX5_readMinutes 1 (some .boolean) :: ([.fieldLink RX5 117 "ExcuseTariffsModel" "itsMinutes" "I", .methodLink RX5 114 yX5_takesOne, .instanceMethod yX5_takesOne, .selects RX5 yX5_takesOne yX5_takesOne, .initialized RX5, .code yX5_takesOne cX5_takesOne 3 (some .int), .fieldLink RX5 108 "ExcuseTariffsModel" "spot" "I", .fieldLink RX5 23 "ExcuseTariffsModel" "pad" "[I", .methodLink RX5 111 yX5_sees, .instanceMethod yX5_sees, .selects RX5 yX5_sees yX5_sees, .code yX5_sees cX5_sees 3 (some .boolean), .fieldLink RX5 105 "ExcuseTariffsModel" "typed" "I", .methodLink RX5 30 yX5_in, .static yX5_in, .code yX5_in cX5_in 3 (some .boolean)] ++ wsX50)
def wsX5_readOffer_r1 : List Cond := [Cond.fieldLink RX5 120 "ExcuseTariffsModel" "itsPupil" "I", Cond.fieldLink RX5 123 "ExcuseTariffsModel" "itsExcuse" "I", Cond.fieldLink RX5 126 "ExcuseTariffsModel" "itsWitness" "I", Cond.methodLink RX5 114 yX5_takesOne, Cond.instanceMethod yX5_takesOne, Cond.selects RX5 yX5_takesOne yX5_takesOne, Cond.initialized RX5, Cond.code yX5_takesOne cX5_takesOne 3 (some .int), Cond.fieldLink RX5 108 "ExcuseTariffsModel" "spot" "I", Cond.fieldLink RX5 23 "ExcuseTariffsModel" "pad" "[I", Cond.methodLink RX5 111 yX5_sees, Cond.instanceMethod yX5_sees, Cond.selects RX5 yX5_sees yX5_sees, Cond.code yX5_sees cX5_sees 3 (some .boolean), Cond.fieldLink RX5 105 "ExcuseTariffsModel" "typed" "I", Cond.methodLink RX5 30 yX5_in, Cond.static yX5_in, Cond.code yX5_in cX5_in 3 (some .boolean), Cond.methodLink RX5 129 yX5_takes, Cond.instanceMethod yX5_takes, Cond.selects RX5 yX5_takes yX5_takes, Cond.code yX5_takes cX5_takes 3 (some .boolean), Cond.methodLink RX5 132 yX5_readMinutes, Cond.instanceMethod yX5_readMinutes]
def wsX5_readOffer_r2 : List Cond := [Cond.selects RX5 yX5_readMinutes yX5_readMinutes, Cond.code yX5_readMinutes cX5_readMinutes 1 (some .boolean), Cond.fieldLink RX5 117 "ExcuseTariffsModel" "itsMinutes" "I"]
def wsX5_readOffer : List Cond := .code yX5_readOffer cX5_readOffer 1 (some .boolean) :: ((wsX5_readOffer_r1 ++ wsX5_readOffer_r2) ++ wsX50)
def wsX5_readPad_r1 : List Cond := [Cond.fieldLink RX5 108 "ExcuseTariffsModel" "spot" "I", Cond.fieldLink RX5 123 "ExcuseTariffsModel" "itsExcuse" "I", Cond.fieldLink RX5 120 "ExcuseTariffsModel" "itsPupil" "I", Cond.fieldLink RX5 126 "ExcuseTariffsModel" "itsWitness" "I", Cond.fieldLink RX5 117 "ExcuseTariffsModel" "itsMinutes" "I", Cond.fieldLink RX5 105 "ExcuseTariffsModel" "typed" "I", Cond.methodLink RX5 136 yX5_readOffer, Cond.instanceMethod yX5_readOffer, Cond.selects RX5 yX5_readOffer yX5_readOffer, Cond.initialized RX5, Cond.code yX5_readOffer cX5_readOffer 1 (some .boolean), Cond.methodLink RX5 114 yX5_takesOne, Cond.instanceMethod yX5_takesOne, Cond.selects RX5 yX5_takesOne yX5_takesOne, Cond.code yX5_takesOne cX5_takesOne 3 (some .int), Cond.fieldLink RX5 23 "ExcuseTariffsModel" "pad" "[I", Cond.methodLink RX5 111 yX5_sees, Cond.instanceMethod yX5_sees, Cond.selects RX5 yX5_sees yX5_sees, Cond.code yX5_sees cX5_sees 3 (some .boolean), Cond.methodLink RX5 30 yX5_in, Cond.static yX5_in, Cond.code yX5_in cX5_in 3 (some .boolean), Cond.methodLink RX5 129 yX5_takes]
def wsX5_readPad_r2 : List Cond := [Cond.instanceMethod yX5_takes, Cond.selects RX5 yX5_takes yX5_takes, Cond.code yX5_takes cX5_takes 3 (some .boolean), Cond.methodLink RX5 132 yX5_readMinutes, Cond.instanceMethod yX5_readMinutes, Cond.selects RX5 yX5_readMinutes yX5_readMinutes, Cond.code yX5_readMinutes cX5_readMinutes 1 (some .boolean), Cond.methodLink RX5 79 yX5_isExcuse, Cond.instanceMethod yX5_isExcuse, Cond.selects RX5 yX5_isExcuse yX5_isExcuse, Cond.code yX5_isExcuse cX5_isExcuse 2 (some .boolean), Cond.fieldLink RX5 7 "ExcuseTariffsModel" "z" "[I", Cond.methodLink RX5 100 yX5_offerNow, Cond.instanceMethod yX5_offerNow, Cond.selects RX5 yX5_offerNow yX5_offerNow, Cond.code yX5_offerNow cX5_offerNow 6 (some .int), Cond.methodLink RX5 86 yX5_reason, Cond.instanceMethod yX5_reason, Cond.selects RX5 yX5_reason yX5_reason, Cond.code yX5_reason cX5_reason 5 (some .int), Cond.methodLink RX5 45 yX5_uses, Cond.instanceMethod yX5_uses, Cond.selects RX5 yX5_uses yX5_uses, Cond.code yX5_uses cX5_uses 3 (some .int)]
def wsX5_readPad_r3 : List Cond := [Cond.methodLink RX5 56 yX5_of, Cond.instanceMethod yX5_of, Cond.selects RX5 yX5_of yX5_of, Cond.code yX5_of cX5_of 3 (some .int), Cond.methodLink RX5 59 yX5_ofExcuse, Cond.instanceMethod yX5_ofExcuse, Cond.selects RX5 yX5_ofExcuse yX5_ofExcuse, Cond.code yX5_ofExcuse cX5_ofExcuse 3 (some .int), Cond.methodLink RX5 71 yX5_weightOf, Cond.instanceMethod yX5_weightOf, Cond.selects RX5 yX5_weightOf yX5_weightOf, Cond.code yX5_weightOf cX5_weightOf 5 (some .int), Cond.methodLink RX5 62 yX5_noveltyOf, Cond.instanceMethod yX5_noveltyOf, Cond.selects RX5 yX5_noveltyOf yX5_noveltyOf, Cond.code yX5_noveltyOf cX5_noveltyOf 4 (some .int), Cond.methodLink RX5 49 yX5_usesBySchool, Cond.instanceMethod yX5_usesBySchool, Cond.selects RX5 yX5_usesBySchool yX5_usesBySchool, Cond.code yX5_usesBySchool cX5_usesBySchool 4 (some .int), Cond.methodLink RX5 53 yX5_usesByClass, Cond.instanceMethod yX5_usesByClass, Cond.selects RX5 yX5_usesByClass yX5_usesByClass, Cond.code yX5_usesByClass cX5_usesByClass 4 (some .int)]
def wsX5_readPad_r4 : List Cond := [Cond.methodLink RX5 65 yX5_grudge, Cond.instanceMethod yX5_grudge, Cond.selects RX5 yX5_grudge yX5_grudge, Cond.code yX5_grudge cX5_grudge 2 (some .int), Cond.methodLink RX5 68 yX5_standsBy, Cond.instanceMethod yX5_standsBy, Cond.selects RX5 yX5_standsBy yX5_standsBy, Cond.code yX5_standsBy cX5_standsBy 4 (some .int), Cond.methodLink RX5 26 yX5_lay, Cond.instanceMethod yX5_lay, Cond.selects RX5 yX5_lay yX5_lay, Cond.code yX5_lay cX5_lay 4 none, Cond.methodLink RX5 89 yX5_angers, Cond.instanceMethod yX5_angers, Cond.selects RX5 yX5_angers yX5_angers, Cond.code yX5_angers cX5_angers 3 none, Cond.methodLink RX5 93 yX5_loses, Cond.instanceMethod yX5_loses, Cond.selects RX5 yX5_loses yX5_loses, Cond.code yX5_loses cX5_loses 4 none]
def wsX5_readPad : List Cond := .code yX5_readPad cX5_readPad 4 (some .int) :: ((wsX5_readPad_r1 ++ (wsX5_readPad_r2 ++ (wsX5_readPad_r3 ++ wsX5_readPad_r4))) ++ wsX50)
def wsX5_fault_r1 : List Cond := [Cond.fieldLink RX5 108 "ExcuseTariffsModel" "spot" "I", Cond.methodLink RX5 139 yX5_readPad, Cond.instanceMethod yX5_readPad, Cond.selects RX5 yX5_readPad yX5_readPad, Cond.initialized RX5, Cond.code yX5_readPad cX5_readPad 4 (some .int), Cond.fieldLink RX5 123 "ExcuseTariffsModel" "itsExcuse" "I", Cond.fieldLink RX5 120 "ExcuseTariffsModel" "itsPupil" "I", Cond.fieldLink RX5 126 "ExcuseTariffsModel" "itsWitness" "I", Cond.fieldLink RX5 117 "ExcuseTariffsModel" "itsMinutes" "I", Cond.fieldLink RX5 105 "ExcuseTariffsModel" "typed" "I", Cond.methodLink RX5 136 yX5_readOffer, Cond.instanceMethod yX5_readOffer, Cond.selects RX5 yX5_readOffer yX5_readOffer, Cond.code yX5_readOffer cX5_readOffer 1 (some .boolean), Cond.methodLink RX5 114 yX5_takesOne, Cond.instanceMethod yX5_takesOne, Cond.selects RX5 yX5_takesOne yX5_takesOne, Cond.code yX5_takesOne cX5_takesOne 3 (some .int), Cond.fieldLink RX5 23 "ExcuseTariffsModel" "pad" "[I", Cond.methodLink RX5 111 yX5_sees, Cond.instanceMethod yX5_sees, Cond.selects RX5 yX5_sees yX5_sees, Cond.code yX5_sees cX5_sees 3 (some .boolean)]
def wsX5_fault_r2 : List Cond := [Cond.methodLink RX5 30 yX5_in, Cond.static yX5_in, Cond.code yX5_in cX5_in 3 (some .boolean), Cond.methodLink RX5 129 yX5_takes, Cond.instanceMethod yX5_takes, Cond.selects RX5 yX5_takes yX5_takes, Cond.code yX5_takes cX5_takes 3 (some .boolean), Cond.methodLink RX5 132 yX5_readMinutes, Cond.instanceMethod yX5_readMinutes, Cond.selects RX5 yX5_readMinutes yX5_readMinutes, Cond.code yX5_readMinutes cX5_readMinutes 1 (some .boolean), Cond.methodLink RX5 79 yX5_isExcuse, Cond.instanceMethod yX5_isExcuse, Cond.selects RX5 yX5_isExcuse yX5_isExcuse, Cond.code yX5_isExcuse cX5_isExcuse 2 (some .boolean), Cond.fieldLink RX5 7 "ExcuseTariffsModel" "z" "[I", Cond.methodLink RX5 100 yX5_offerNow, Cond.instanceMethod yX5_offerNow, Cond.selects RX5 yX5_offerNow yX5_offerNow, Cond.code yX5_offerNow cX5_offerNow 6 (some .int), Cond.methodLink RX5 86 yX5_reason, Cond.instanceMethod yX5_reason, Cond.selects RX5 yX5_reason yX5_reason, Cond.code yX5_reason cX5_reason 5 (some .int)]
def wsX5_fault_r3 : List Cond := [Cond.methodLink RX5 45 yX5_uses, Cond.instanceMethod yX5_uses, Cond.selects RX5 yX5_uses yX5_uses, Cond.code yX5_uses cX5_uses 3 (some .int), Cond.methodLink RX5 56 yX5_of, Cond.instanceMethod yX5_of, Cond.selects RX5 yX5_of yX5_of, Cond.code yX5_of cX5_of 3 (some .int), Cond.methodLink RX5 59 yX5_ofExcuse, Cond.instanceMethod yX5_ofExcuse, Cond.selects RX5 yX5_ofExcuse yX5_ofExcuse, Cond.code yX5_ofExcuse cX5_ofExcuse 3 (some .int), Cond.methodLink RX5 71 yX5_weightOf, Cond.instanceMethod yX5_weightOf, Cond.selects RX5 yX5_weightOf yX5_weightOf, Cond.code yX5_weightOf cX5_weightOf 5 (some .int), Cond.methodLink RX5 62 yX5_noveltyOf, Cond.instanceMethod yX5_noveltyOf, Cond.selects RX5 yX5_noveltyOf yX5_noveltyOf, Cond.code yX5_noveltyOf cX5_noveltyOf 4 (some .int), Cond.methodLink RX5 49 yX5_usesBySchool, Cond.instanceMethod yX5_usesBySchool, Cond.selects RX5 yX5_usesBySchool yX5_usesBySchool, Cond.code yX5_usesBySchool cX5_usesBySchool 4 (some .int)]
def wsX5_fault_r4 : List Cond := [Cond.methodLink RX5 53 yX5_usesByClass, Cond.instanceMethod yX5_usesByClass, Cond.selects RX5 yX5_usesByClass yX5_usesByClass, Cond.code yX5_usesByClass cX5_usesByClass 4 (some .int), Cond.methodLink RX5 65 yX5_grudge, Cond.instanceMethod yX5_grudge, Cond.selects RX5 yX5_grudge yX5_grudge, Cond.code yX5_grudge cX5_grudge 2 (some .int), Cond.methodLink RX5 68 yX5_standsBy, Cond.instanceMethod yX5_standsBy, Cond.selects RX5 yX5_standsBy yX5_standsBy, Cond.code yX5_standsBy cX5_standsBy 4 (some .int), Cond.methodLink RX5 26 yX5_lay, Cond.instanceMethod yX5_lay, Cond.selects RX5 yX5_lay yX5_lay, Cond.code yX5_lay cX5_lay 4 none, Cond.methodLink RX5 89 yX5_angers, Cond.instanceMethod yX5_angers, Cond.selects RX5 yX5_angers yX5_angers, Cond.code yX5_angers cX5_angers 3 none, Cond.methodLink RX5 93 yX5_loses, Cond.instanceMethod yX5_loses, Cond.selects RX5 yX5_loses yX5_loses, Cond.code yX5_loses cX5_loses 4 none]
def wsX5_fault : List Cond := .code yX5_fault cX5_fault 1 (some .int) :: ((wsX5_fault_r1 ++ (wsX5_fault_r2 ++ (wsX5_fault_r3 ++ wsX5_fault_r4))) ++ wsX50)
def wsX5_read_r1 : List Cond := [Cond.fieldLink RX5 105 "ExcuseTariffsModel" "typed" "I", Cond.methodLink RX5 139 yX5_readPad, Cond.instanceMethod yX5_readPad, Cond.selects RX5 yX5_readPad yX5_readPad, Cond.initialized RX5, Cond.code yX5_readPad cX5_readPad 4 (some .int), Cond.fieldLink RX5 108 "ExcuseTariffsModel" "spot" "I", Cond.fieldLink RX5 123 "ExcuseTariffsModel" "itsExcuse" "I", Cond.fieldLink RX5 120 "ExcuseTariffsModel" "itsPupil" "I", Cond.fieldLink RX5 126 "ExcuseTariffsModel" "itsWitness" "I", Cond.fieldLink RX5 117 "ExcuseTariffsModel" "itsMinutes" "I", Cond.methodLink RX5 136 yX5_readOffer, Cond.instanceMethod yX5_readOffer, Cond.selects RX5 yX5_readOffer yX5_readOffer, Cond.code yX5_readOffer cX5_readOffer 1 (some .boolean), Cond.methodLink RX5 114 yX5_takesOne, Cond.instanceMethod yX5_takesOne, Cond.selects RX5 yX5_takesOne yX5_takesOne, Cond.code yX5_takesOne cX5_takesOne 3 (some .int), Cond.fieldLink RX5 23 "ExcuseTariffsModel" "pad" "[I", Cond.methodLink RX5 111 yX5_sees, Cond.instanceMethod yX5_sees, Cond.selects RX5 yX5_sees yX5_sees, Cond.code yX5_sees cX5_sees 3 (some .boolean)]
def wsX5_read_r2 : List Cond := [Cond.methodLink RX5 30 yX5_in, Cond.static yX5_in, Cond.code yX5_in cX5_in 3 (some .boolean), Cond.methodLink RX5 129 yX5_takes, Cond.instanceMethod yX5_takes, Cond.selects RX5 yX5_takes yX5_takes, Cond.code yX5_takes cX5_takes 3 (some .boolean), Cond.methodLink RX5 132 yX5_readMinutes, Cond.instanceMethod yX5_readMinutes, Cond.selects RX5 yX5_readMinutes yX5_readMinutes, Cond.code yX5_readMinutes cX5_readMinutes 1 (some .boolean), Cond.methodLink RX5 79 yX5_isExcuse, Cond.instanceMethod yX5_isExcuse, Cond.selects RX5 yX5_isExcuse yX5_isExcuse, Cond.code yX5_isExcuse cX5_isExcuse 2 (some .boolean), Cond.fieldLink RX5 7 "ExcuseTariffsModel" "z" "[I", Cond.methodLink RX5 100 yX5_offerNow, Cond.instanceMethod yX5_offerNow, Cond.selects RX5 yX5_offerNow yX5_offerNow, Cond.code yX5_offerNow cX5_offerNow 6 (some .int), Cond.methodLink RX5 86 yX5_reason, Cond.instanceMethod yX5_reason, Cond.selects RX5 yX5_reason yX5_reason, Cond.code yX5_reason cX5_reason 5 (some .int)]
def wsX5_read_r3 : List Cond := [Cond.methodLink RX5 45 yX5_uses, Cond.instanceMethod yX5_uses, Cond.selects RX5 yX5_uses yX5_uses, Cond.code yX5_uses cX5_uses 3 (some .int), Cond.methodLink RX5 56 yX5_of, Cond.instanceMethod yX5_of, Cond.selects RX5 yX5_of yX5_of, Cond.code yX5_of cX5_of 3 (some .int), Cond.methodLink RX5 59 yX5_ofExcuse, Cond.instanceMethod yX5_ofExcuse, Cond.selects RX5 yX5_ofExcuse yX5_ofExcuse, Cond.code yX5_ofExcuse cX5_ofExcuse 3 (some .int), Cond.methodLink RX5 71 yX5_weightOf, Cond.instanceMethod yX5_weightOf, Cond.selects RX5 yX5_weightOf yX5_weightOf, Cond.code yX5_weightOf cX5_weightOf 5 (some .int), Cond.methodLink RX5 62 yX5_noveltyOf, Cond.instanceMethod yX5_noveltyOf, Cond.selects RX5 yX5_noveltyOf yX5_noveltyOf, Cond.code yX5_noveltyOf cX5_noveltyOf 4 (some .int), Cond.methodLink RX5 49 yX5_usesBySchool, Cond.instanceMethod yX5_usesBySchool, Cond.selects RX5 yX5_usesBySchool yX5_usesBySchool, Cond.code yX5_usesBySchool cX5_usesBySchool 4 (some .int)]
def wsX5_read_r4 : List Cond := [Cond.methodLink RX5 53 yX5_usesByClass, Cond.instanceMethod yX5_usesByClass, Cond.selects RX5 yX5_usesByClass yX5_usesByClass, Cond.code yX5_usesByClass cX5_usesByClass 4 (some .int), Cond.methodLink RX5 65 yX5_grudge, Cond.instanceMethod yX5_grudge, Cond.selects RX5 yX5_grudge yX5_grudge, Cond.code yX5_grudge cX5_grudge 2 (some .int), Cond.methodLink RX5 68 yX5_standsBy, Cond.instanceMethod yX5_standsBy, Cond.selects RX5 yX5_standsBy yX5_standsBy, Cond.code yX5_standsBy cX5_standsBy 4 (some .int), Cond.methodLink RX5 26 yX5_lay, Cond.instanceMethod yX5_lay, Cond.selects RX5 yX5_lay yX5_lay, Cond.code yX5_lay cX5_lay 4 none, Cond.methodLink RX5 89 yX5_angers, Cond.instanceMethod yX5_angers, Cond.selects RX5 yX5_angers yX5_angers, Cond.code yX5_angers cX5_angers 3 none, Cond.methodLink RX5 93 yX5_loses, Cond.instanceMethod yX5_loses, Cond.selects RX5 yX5_loses yX5_loses, Cond.code yX5_loses cX5_loses 4 none]
def wsX5_read_r5 : List Cond := [Cond.methodLink RX5 42 yX5_record, Cond.instanceMethod yX5_record, Cond.selects RX5 yX5_record yX5_record, Cond.code yX5_record cX5_record 2 none, Cond.fieldLink RX5 34 "ExcuseTariffsModel" "states" "I", Cond.fieldLink RX5 13 "ExcuseTariffsModel" "past" "[I", Cond.methodLink RX5 38 yX5_copyState, Cond.static yX5_copyState, Cond.code yX5_copyState cX5_copyState 5 none]
def wsX5_read : List Cond := .code yX5_read cX5_read 2 (some .int) :: ((wsX5_read_r1 ++ (wsX5_read_r2 ++ (wsX5_read_r3 ++ (wsX5_read_r4 ++ wsX5_read_r5)))) ++ wsX50)
def wsX5_users : List Cond := .code yX5_users cX5_users 4 (some .int) :: ([.methodLink RX5 45 yX5_uses, .instanceMethod yX5_uses, .selects RX5 yX5_uses yX5_uses, .initialized RX5, .code yX5_uses cX5_uses 3 (some .int), .fieldLink RX5 7 "ExcuseTariffsModel" "z" "[I"] ++ wsX50)
def wsX5_excuse_r1 : List Cond := [Cond.methodLink RX5 79 yX5_isExcuse, Cond.instanceMethod yX5_isExcuse, Cond.selects RX5 yX5_isExcuse yX5_isExcuse, Cond.initialized RX5, Cond.code yX5_isExcuse cX5_isExcuse 2 (some .boolean), Cond.fieldLink RX5 7 "ExcuseTariffsModel" "z" "[I", Cond.methodLink RX5 30 yX5_in, Cond.static yX5_in, Cond.code yX5_in cX5_in 3 (some .boolean), Cond.methodLink RX5 59 yX5_ofExcuse, Cond.instanceMethod yX5_ofExcuse, Cond.selects RX5 yX5_ofExcuse yX5_ofExcuse, Cond.code yX5_ofExcuse cX5_ofExcuse 3 (some .int), Cond.methodLink RX5 49 yX5_usesBySchool, Cond.instanceMethod yX5_usesBySchool, Cond.selects RX5 yX5_usesBySchool yX5_usesBySchool, Cond.code yX5_usesBySchool cX5_usesBySchool 4 (some .int), Cond.methodLink RX5 45 yX5_uses, Cond.instanceMethod yX5_uses, Cond.selects RX5 yX5_uses yX5_uses, Cond.code yX5_uses cX5_uses 3 (some .int), Cond.methodLink RX5 143 yX5_users, Cond.instanceMethod yX5_users, Cond.selects RX5 yX5_users yX5_users]
def wsX5_excuse_r2 : List Cond := [Cond.code yX5_users cX5_users 4 (some .int)]
def wsX5_excuse : List Cond := .code yX5_excuse cX5_excuse 3 (some .int) :: ((wsX5_excuse_r1 ++ wsX5_excuse_r2) ++ wsX50)
def wsX5_usesBy : List Cond := .code yX5_usesBy cX5_usesBy 4 (some .int) :: ([.fieldLink RX5 7 "ExcuseTariffsModel" "z" "[I", .methodLink RX5 45 yX5_uses, .instanceMethod yX5_uses, .selects RX5 yX5_uses yX5_uses, .initialized RX5, .code yX5_uses cX5_uses 3 (some .int)] ++ wsX50)
def wsX5_pupil : List Cond := .code yX5_pupil cX5_pupil 3 (some .int) :: ([.methodLink RX5 83 yX5_isPupil, .static yX5_isPupil, .initialized RX5, .code yX5_isPupil cX5_isPupil 1 (some .boolean), .methodLink RX5 30 yX5_in, .static yX5_in, .code yX5_in cX5_in 3 (some .boolean), .methodLink RX5 56 yX5_of, .instanceMethod yX5_of, .selects RX5 yX5_of yX5_of, .code yX5_of cX5_of 3 (some .int), .fieldLink RX5 7 "ExcuseTariffsModel" "z" "[I", .methodLink RX5 146 yX5_usesBy, .instanceMethod yX5_usesBy, .selects RX5 yX5_usesBy yX5_usesBy, .code yX5_usesBy cX5_usesBy 4 (some .int), .methodLink RX5 45 yX5_uses, .instanceMethod yX5_uses, .selects RX5 yX5_uses yX5_uses, .code yX5_uses cX5_uses 3 (some .int), .methodLink RX5 65 yX5_grudge, .instanceMethod yX5_grudge, .selects RX5 yX5_grudge yX5_grudge, .code yX5_grudge cX5_grudge 2 (some .int)] ++ wsX50)
def wsX5_novelty_r1 : List Cond := [Cond.methodLink RX5 83 yX5_isPupil, Cond.static yX5_isPupil, Cond.initialized RX5, Cond.code yX5_isPupil cX5_isPupil 1 (some .boolean), Cond.methodLink RX5 30 yX5_in, Cond.static yX5_in, Cond.code yX5_in cX5_in 3 (some .boolean), Cond.methodLink RX5 79 yX5_isExcuse, Cond.instanceMethod yX5_isExcuse, Cond.selects RX5 yX5_isExcuse yX5_isExcuse, Cond.code yX5_isExcuse cX5_isExcuse 2 (some .boolean), Cond.fieldLink RX5 7 "ExcuseTariffsModel" "z" "[I", Cond.methodLink RX5 62 yX5_noveltyOf, Cond.instanceMethod yX5_noveltyOf, Cond.selects RX5 yX5_noveltyOf yX5_noveltyOf, Cond.code yX5_noveltyOf cX5_noveltyOf 4 (some .int), Cond.methodLink RX5 49 yX5_usesBySchool, Cond.instanceMethod yX5_usesBySchool, Cond.selects RX5 yX5_usesBySchool yX5_usesBySchool, Cond.code yX5_usesBySchool cX5_usesBySchool 4 (some .int), Cond.methodLink RX5 45 yX5_uses, Cond.instanceMethod yX5_uses, Cond.selects RX5 yX5_uses yX5_uses, Cond.code yX5_uses cX5_uses 3 (some .int)]
def wsX5_novelty_r2 : List Cond := [Cond.methodLink RX5 53 yX5_usesByClass, Cond.instanceMethod yX5_usesByClass, Cond.selects RX5 yX5_usesByClass yX5_usesByClass, Cond.code yX5_usesByClass cX5_usesByClass 4 (some .int)]
def wsX5_novelty : List Cond := .code yX5_novelty cX5_novelty 3 (some .int) :: ((wsX5_novelty_r1 ++ wsX5_novelty_r2) ++ wsX50)
def wsX5_why_r1 : List Cond := [Cond.methodLink RX5 97 yX5_whyNotOffer, Cond.instanceMethod yX5_whyNotOffer, Cond.selects RX5 yX5_whyNotOffer yX5_whyNotOffer, Cond.initialized RX5, Cond.code yX5_whyNotOffer cX5_whyNotOffer 5 (some .int), Cond.methodLink RX5 83 yX5_isPupil, Cond.static yX5_isPupil, Cond.code yX5_isPupil cX5_isPupil 1 (some .boolean), Cond.methodLink RX5 30 yX5_in, Cond.static yX5_in, Cond.code yX5_in cX5_in 3 (some .boolean), Cond.methodLink RX5 79 yX5_isExcuse, Cond.instanceMethod yX5_isExcuse, Cond.selects RX5 yX5_isExcuse yX5_isExcuse, Cond.code yX5_isExcuse cX5_isExcuse 2 (some .boolean), Cond.fieldLink RX5 7 "ExcuseTariffsModel" "z" "[I", Cond.methodLink RX5 86 yX5_reason, Cond.instanceMethod yX5_reason, Cond.selects RX5 yX5_reason yX5_reason, Cond.code yX5_reason cX5_reason 5 (some .int), Cond.methodLink RX5 45 yX5_uses, Cond.instanceMethod yX5_uses, Cond.selects RX5 yX5_uses yX5_uses, Cond.code yX5_uses cX5_uses 3 (some .int)]
def wsX5_why_r2 : List Cond := [Cond.methodLink RX5 56 yX5_of, Cond.instanceMethod yX5_of, Cond.selects RX5 yX5_of yX5_of, Cond.code yX5_of cX5_of 3 (some .int), Cond.methodLink RX5 59 yX5_ofExcuse, Cond.instanceMethod yX5_ofExcuse, Cond.selects RX5 yX5_ofExcuse yX5_ofExcuse, Cond.code yX5_ofExcuse cX5_ofExcuse 3 (some .int), Cond.methodLink RX5 71 yX5_weightOf, Cond.instanceMethod yX5_weightOf, Cond.selects RX5 yX5_weightOf yX5_weightOf, Cond.code yX5_weightOf cX5_weightOf 5 (some .int), Cond.methodLink RX5 62 yX5_noveltyOf, Cond.instanceMethod yX5_noveltyOf, Cond.selects RX5 yX5_noveltyOf yX5_noveltyOf, Cond.code yX5_noveltyOf cX5_noveltyOf 4 (some .int), Cond.methodLink RX5 49 yX5_usesBySchool, Cond.instanceMethod yX5_usesBySchool, Cond.selects RX5 yX5_usesBySchool yX5_usesBySchool, Cond.code yX5_usesBySchool cX5_usesBySchool 4 (some .int), Cond.methodLink RX5 53 yX5_usesByClass, Cond.instanceMethod yX5_usesByClass, Cond.selects RX5 yX5_usesByClass yX5_usesByClass, Cond.code yX5_usesByClass cX5_usesByClass 4 (some .int)]
def wsX5_why_r3 : List Cond := [Cond.methodLink RX5 65 yX5_grudge, Cond.instanceMethod yX5_grudge, Cond.selects RX5 yX5_grudge yX5_grudge, Cond.code yX5_grudge cX5_grudge 2 (some .int), Cond.methodLink RX5 68 yX5_standsBy, Cond.instanceMethod yX5_standsBy, Cond.selects RX5 yX5_standsBy yX5_standsBy, Cond.code yX5_standsBy cX5_standsBy 4 (some .int)]
def wsX5_why : List Cond := .code yX5_why cX5_why 6 (some .int) :: ((wsX5_why_r1 ++ (wsX5_why_r2 ++ wsX5_why_r3)) ++ wsX50)
def wsX5_weight_r1 : List Cond := [Cond.methodLink RX5 97 yX5_whyNotOffer, Cond.instanceMethod yX5_whyNotOffer, Cond.selects RX5 yX5_whyNotOffer yX5_whyNotOffer, Cond.initialized RX5, Cond.code yX5_whyNotOffer cX5_whyNotOffer 5 (some .int), Cond.methodLink RX5 83 yX5_isPupil, Cond.static yX5_isPupil, Cond.code yX5_isPupil cX5_isPupil 1 (some .boolean), Cond.methodLink RX5 30 yX5_in, Cond.static yX5_in, Cond.code yX5_in cX5_in 3 (some .boolean), Cond.methodLink RX5 79 yX5_isExcuse, Cond.instanceMethod yX5_isExcuse, Cond.selects RX5 yX5_isExcuse yX5_isExcuse, Cond.code yX5_isExcuse cX5_isExcuse 2 (some .boolean), Cond.fieldLink RX5 7 "ExcuseTariffsModel" "z" "[I", Cond.methodLink RX5 71 yX5_weightOf, Cond.instanceMethod yX5_weightOf, Cond.selects RX5 yX5_weightOf yX5_weightOf, Cond.code yX5_weightOf cX5_weightOf 5 (some .int), Cond.methodLink RX5 59 yX5_ofExcuse, Cond.instanceMethod yX5_ofExcuse, Cond.selects RX5 yX5_ofExcuse yX5_ofExcuse, Cond.code yX5_ofExcuse cX5_ofExcuse 3 (some .int)]
def wsX5_weight_r2 : List Cond := [Cond.methodLink RX5 62 yX5_noveltyOf, Cond.instanceMethod yX5_noveltyOf, Cond.selects RX5 yX5_noveltyOf yX5_noveltyOf, Cond.code yX5_noveltyOf cX5_noveltyOf 4 (some .int), Cond.methodLink RX5 49 yX5_usesBySchool, Cond.instanceMethod yX5_usesBySchool, Cond.selects RX5 yX5_usesBySchool yX5_usesBySchool, Cond.code yX5_usesBySchool cX5_usesBySchool 4 (some .int), Cond.methodLink RX5 45 yX5_uses, Cond.instanceMethod yX5_uses, Cond.selects RX5 yX5_uses yX5_uses, Cond.code yX5_uses cX5_uses 3 (some .int), Cond.methodLink RX5 53 yX5_usesByClass, Cond.instanceMethod yX5_usesByClass, Cond.selects RX5 yX5_usesByClass yX5_usesByClass, Cond.code yX5_usesByClass cX5_usesByClass 4 (some .int), Cond.methodLink RX5 65 yX5_grudge, Cond.instanceMethod yX5_grudge, Cond.selects RX5 yX5_grudge yX5_grudge, Cond.code yX5_grudge cX5_grudge 2 (some .int), Cond.methodLink RX5 68 yX5_standsBy, Cond.instanceMethod yX5_standsBy, Cond.selects RX5 yX5_standsBy yX5_standsBy, Cond.code yX5_standsBy cX5_standsBy 4 (some .int)]
def wsX5_weight_r3 : List Cond := [Cond.methodLink RX5 56 yX5_of, Cond.instanceMethod yX5_of, Cond.selects RX5 yX5_of yX5_of, Cond.code yX5_of cX5_of 3 (some .int)]
def wsX5_weight : List Cond := .code yX5_weight cX5_weight 6 (some .int) :: ((wsX5_weight_r1 ++ (wsX5_weight_r2 ++ wsX5_weight_r3)) ++ wsX50)
def wsX5_sumOfPupils : List Cond := .code yX5_sumOfPupils cX5_sumOfPupils 4 (some .int) :: ([.methodLink RX5 56 yX5_of, .instanceMethod yX5_of, .selects RX5 yX5_of yX5_of, .initialized RX5, .code yX5_of cX5_of 3 (some .int), .fieldLink RX5 7 "ExcuseTariffsModel" "z" "[I"] ++ wsX50)
def wsX5_grudges : List Cond := .code yX5_grudges cX5_grudges 3 (some .int) :: ([.fieldLink RX5 7 "ExcuseTariffsModel" "z" "[I"] ++ wsX50)
def wsX5_wornOut : List Cond := .code yX5_wornOut cX5_wornOut 5 (some .int) :: ([.fieldLink RX5 7 "ExcuseTariffsModel" "z" "[I", .methodLink RX5 62 yX5_noveltyOf, .instanceMethod yX5_noveltyOf, .selects RX5 yX5_noveltyOf yX5_noveltyOf, .initialized RX5, .code yX5_noveltyOf cX5_noveltyOf 4 (some .int), .methodLink RX5 49 yX5_usesBySchool, .instanceMethod yX5_usesBySchool, .selects RX5 yX5_usesBySchool yX5_usesBySchool, .code yX5_usesBySchool cX5_usesBySchool 4 (some .int), .methodLink RX5 45 yX5_uses, .instanceMethod yX5_uses, .selects RX5 yX5_uses yX5_uses, .code yX5_uses cX5_uses 3 (some .int), .methodLink RX5 53 yX5_usesByClass, .instanceMethod yX5_usesByClass, .selects RX5 yX5_usesByClass yX5_usesByClass, .code yX5_usesByClass cX5_usesByClass 4 (some .int)] ++ wsX50)
def wsX5_count_r1 : List Cond := [Cond.fieldLink RX5 7 "ExcuseTariffsModel" "z" "[I", Cond.fieldLink RX5 105 "ExcuseTariffsModel" "typed" "I", Cond.fieldLink RX5 34 "ExcuseTariffsModel" "states" "I", Cond.methodLink RX5 149 yX5_sumOfPupils, Cond.instanceMethod yX5_sumOfPupils, Cond.selects RX5 yX5_sumOfPupils yX5_sumOfPupils, Cond.initialized RX5, Cond.code yX5_sumOfPupils cX5_sumOfPupils 4 (some .int), Cond.methodLink RX5 56 yX5_of, Cond.instanceMethod yX5_of, Cond.selects RX5 yX5_of yX5_of, Cond.code yX5_of cX5_of 3 (some .int), Cond.methodLink RX5 152 yX5_grudges, Cond.instanceMethod yX5_grudges, Cond.selects RX5 yX5_grudges yX5_grudges, Cond.code yX5_grudges cX5_grudges 3 (some .int), Cond.methodLink RX5 156 yX5_wornOut, Cond.instanceMethod yX5_wornOut, Cond.selects RX5 yX5_wornOut yX5_wornOut, Cond.code yX5_wornOut cX5_wornOut 5 (some .int), Cond.methodLink RX5 62 yX5_noveltyOf, Cond.instanceMethod yX5_noveltyOf, Cond.selects RX5 yX5_noveltyOf yX5_noveltyOf, Cond.code yX5_noveltyOf cX5_noveltyOf 4 (some .int)]
def wsX5_count_r2 : List Cond := [Cond.methodLink RX5 49 yX5_usesBySchool, Cond.instanceMethod yX5_usesBySchool, Cond.selects RX5 yX5_usesBySchool yX5_usesBySchool, Cond.code yX5_usesBySchool cX5_usesBySchool 4 (some .int), Cond.methodLink RX5 45 yX5_uses, Cond.instanceMethod yX5_uses, Cond.selects RX5 yX5_uses yX5_uses, Cond.code yX5_uses cX5_uses 3 (some .int), Cond.methodLink RX5 53 yX5_usesByClass, Cond.instanceMethod yX5_usesByClass, Cond.selects RX5 yX5_usesByClass yX5_usesByClass, Cond.code yX5_usesByClass cX5_usesByClass 4 (some .int)]
def wsX5_count : List Cond := .code yX5_count cX5_count 2 (some .int) :: ((wsX5_count_r1 ++ wsX5_count_r2) ++ wsX50)
def wsX5_bestExcuse_r1 : List Cond := [Cond.fieldLink RX5 7 "ExcuseTariffsModel" "z" "[I", Cond.methodLink RX5 83 yX5_isPupil, Cond.static yX5_isPupil, Cond.initialized RX5, Cond.code yX5_isPupil cX5_isPupil 1 (some .boolean), Cond.methodLink RX5 30 yX5_in, Cond.static yX5_in, Cond.code yX5_in cX5_in 3 (some .boolean), Cond.methodLink RX5 86 yX5_reason, Cond.instanceMethod yX5_reason, Cond.selects RX5 yX5_reason yX5_reason, Cond.code yX5_reason cX5_reason 5 (some .int), Cond.methodLink RX5 45 yX5_uses, Cond.instanceMethod yX5_uses, Cond.selects RX5 yX5_uses yX5_uses, Cond.code yX5_uses cX5_uses 3 (some .int), Cond.methodLink RX5 56 yX5_of, Cond.instanceMethod yX5_of, Cond.selects RX5 yX5_of yX5_of, Cond.code yX5_of cX5_of 3 (some .int), Cond.methodLink RX5 59 yX5_ofExcuse, Cond.instanceMethod yX5_ofExcuse, Cond.selects RX5 yX5_ofExcuse yX5_ofExcuse, Cond.code yX5_ofExcuse cX5_ofExcuse 3 (some .int)]
def wsX5_bestExcuse_r2 : List Cond := [Cond.methodLink RX5 71 yX5_weightOf, Cond.instanceMethod yX5_weightOf, Cond.selects RX5 yX5_weightOf yX5_weightOf, Cond.code yX5_weightOf cX5_weightOf 5 (some .int), Cond.methodLink RX5 62 yX5_noveltyOf, Cond.instanceMethod yX5_noveltyOf, Cond.selects RX5 yX5_noveltyOf yX5_noveltyOf, Cond.code yX5_noveltyOf cX5_noveltyOf 4 (some .int), Cond.methodLink RX5 49 yX5_usesBySchool, Cond.instanceMethod yX5_usesBySchool, Cond.selects RX5 yX5_usesBySchool yX5_usesBySchool, Cond.code yX5_usesBySchool cX5_usesBySchool 4 (some .int), Cond.methodLink RX5 53 yX5_usesByClass, Cond.instanceMethod yX5_usesByClass, Cond.selects RX5 yX5_usesByClass yX5_usesByClass, Cond.code yX5_usesByClass cX5_usesByClass 4 (some .int), Cond.methodLink RX5 65 yX5_grudge, Cond.instanceMethod yX5_grudge, Cond.selects RX5 yX5_grudge yX5_grudge, Cond.code yX5_grudge cX5_grudge 2 (some .int), Cond.methodLink RX5 68 yX5_standsBy, Cond.instanceMethod yX5_standsBy, Cond.selects RX5 yX5_standsBy yX5_standsBy, Cond.code yX5_standsBy cX5_standsBy 4 (some .int)]
def wsX5_bestExcuse : List Cond := .code yX5_bestExcuse cX5_bestExcuse 6 (some .int) :: ((wsX5_bestExcuse_r1 ++ wsX5_bestExcuse_r2) ++ wsX50)
def wsX5_bestWitness : List Cond := .code yX5_bestWitness cX5_bestWitness 7 (some .int) :: ([.methodLink RX5 83 yX5_isPupil, .static yX5_isPupil, .initialized RX5, .code yX5_isPupil cX5_isPupil 1 (some .boolean), .methodLink RX5 30 yX5_in, .static yX5_in, .code yX5_in cX5_in 3 (some .boolean), .methodLink RX5 79 yX5_isExcuse, .instanceMethod yX5_isExcuse, .selects RX5 yX5_isExcuse yX5_isExcuse, .code yX5_isExcuse cX5_isExcuse 2 (some .boolean), .fieldLink RX5 7 "ExcuseTariffsModel" "z" "[I", .methodLink RX5 56 yX5_of, .instanceMethod yX5_of, .selects RX5 yX5_of yX5_of, .code yX5_of cX5_of 3 (some .int), .methodLink RX5 68 yX5_standsBy, .instanceMethod yX5_standsBy, .selects RX5 yX5_standsBy yX5_standsBy, .code yX5_standsBy cX5_standsBy 4 (some .int)] ++ wsX50)
def wsX5_mostMinutes_r1 : List Cond := [Cond.methodLink RX5 83 yX5_isPupil, Cond.static yX5_isPupil, Cond.initialized RX5, Cond.code yX5_isPupil cX5_isPupil 1 (some .boolean), Cond.methodLink RX5 30 yX5_in, Cond.static yX5_in, Cond.code yX5_in cX5_in 3 (some .boolean), Cond.methodLink RX5 79 yX5_isExcuse, Cond.instanceMethod yX5_isExcuse, Cond.selects RX5 yX5_isExcuse yX5_isExcuse, Cond.code yX5_isExcuse cX5_isExcuse 2 (some .boolean), Cond.fieldLink RX5 7 "ExcuseTariffsModel" "z" "[I", Cond.methodLink RX5 86 yX5_reason, Cond.instanceMethod yX5_reason, Cond.selects RX5 yX5_reason yX5_reason, Cond.code yX5_reason cX5_reason 5 (some .int), Cond.methodLink RX5 45 yX5_uses, Cond.instanceMethod yX5_uses, Cond.selects RX5 yX5_uses yX5_uses, Cond.code yX5_uses cX5_uses 3 (some .int), Cond.methodLink RX5 56 yX5_of, Cond.instanceMethod yX5_of, Cond.selects RX5 yX5_of yX5_of, Cond.code yX5_of cX5_of 3 (some .int)]
def wsX5_mostMinutes_r2 : List Cond := [Cond.methodLink RX5 59 yX5_ofExcuse, Cond.instanceMethod yX5_ofExcuse, Cond.selects RX5 yX5_ofExcuse yX5_ofExcuse, Cond.code yX5_ofExcuse cX5_ofExcuse 3 (some .int), Cond.methodLink RX5 71 yX5_weightOf, Cond.instanceMethod yX5_weightOf, Cond.selects RX5 yX5_weightOf yX5_weightOf, Cond.code yX5_weightOf cX5_weightOf 5 (some .int), Cond.methodLink RX5 62 yX5_noveltyOf, Cond.instanceMethod yX5_noveltyOf, Cond.selects RX5 yX5_noveltyOf yX5_noveltyOf, Cond.code yX5_noveltyOf cX5_noveltyOf 4 (some .int), Cond.methodLink RX5 49 yX5_usesBySchool, Cond.instanceMethod yX5_usesBySchool, Cond.selects RX5 yX5_usesBySchool yX5_usesBySchool, Cond.code yX5_usesBySchool cX5_usesBySchool 4 (some .int), Cond.methodLink RX5 53 yX5_usesByClass, Cond.instanceMethod yX5_usesByClass, Cond.selects RX5 yX5_usesByClass yX5_usesByClass, Cond.code yX5_usesByClass cX5_usesByClass 4 (some .int), Cond.methodLink RX5 65 yX5_grudge, Cond.instanceMethod yX5_grudge, Cond.selects RX5 yX5_grudge yX5_grudge, Cond.code yX5_grudge cX5_grudge 2 (some .int)]
def wsX5_mostMinutes_r3 : List Cond := [Cond.methodLink RX5 68 yX5_standsBy, Cond.instanceMethod yX5_standsBy, Cond.selects RX5 yX5_standsBy yX5_standsBy, Cond.code yX5_standsBy cX5_standsBy 4 (some .int)]
def wsX5_mostMinutes : List Cond := .code yX5_mostMinutes cX5_mostMinutes 4 (some .int) :: ((wsX5_mostMinutes_r1 ++ (wsX5_mostMinutes_r2 ++ wsX5_mostMinutes_r3)) ++ wsX50)
def wsJ9_max_7cf53 : List Cond := .code yJ9_max_7cf53 cJ9_max_7cf53 2 (some .int) :: ([])
def wsJ9_min_7cf53 : List Cond := .code yJ9_min_7cf53 cJ9_min_7cf53 2 (some .int) :: ([])
def wsL_law_r1 : List Cond := [Cond.classLink RL 7 RX4, Cond.instantiable RX4 6, Cond.initialized RX4, Cond.classLink RL 10 RX5, Cond.instantiable RX5 12, Cond.initialized RX5, Cond.constantLong RL 82 (4294967295), Cond.methodLink RL 9 yX4_init, Cond.instanceMethod yX4_init, Cond.code yX4_init cX4_init 2 none, Cond.methodLink RX4 1 objectInit, Cond.instanceMethod objectInit, Cond.code objectInit ⟨#[0xb1]⟩ 1 none, Cond.classLink RX4 7 RX3, Cond.instantiable RX3 15, Cond.initialized RX3, Cond.fieldLink RX4 10 "ExcuseTariffs" "school" "LExcuseTariffs$School;", Cond.classLink RX4 16 RX0, Cond.instantiable RX0 3, Cond.initialized RX0, Cond.fieldLink RX4 19 "ExcuseTariffs" "history" "LExcuseTariffs$History;", Cond.fieldLink RX4 23 "ExcuseTariffs" "slots" "[LExcuseTariffs$School;", Cond.arrayClass .boolean, Cond.fieldLink RX4 27 "ExcuseTariffs" "saved" "[Z"]
def wsL_law_r2 : List Cond := [Cond.classLink RX4 31 RX1, Cond.instantiable RX1 2, Cond.initialized RX1, Cond.fieldLink RX4 34 "ExcuseTariffs" "pad" "LExcuseTariffs$Pad;", Cond.classLink RX4 38 RX2, Cond.instantiable RX2 5, Cond.initialized RX2, Cond.fieldLink RX4 41 "ExcuseTariffs" "reader" "LExcuseTariffs$Reader;", Cond.methodLink RX4 9 yX3_init, Cond.instanceMethod yX3_init, Cond.code yX3_init cX3_init 2 none, Cond.methodLink RX3 3 objectInit, Cond.arrayClass .int, Cond.fieldLink RX3 13 "ExcuseTariffs$School" "settings" "[I", Cond.fieldLink RX3 18 "ExcuseTariffs$School" "excuses" "I", Cond.fieldLink RX3 22 "ExcuseTariffs$School" "kinds" "[I", Cond.fieldLink RX3 25 "ExcuseTariffs$School" "worths" "[I", Cond.fieldLink RX3 28 "ExcuseTariffs$School" "usesInAllTerms" "[I", Cond.fieldLink RX3 31 "ExcuseTariffs$School" "uses" "[I", Cond.fieldLink RX3 34 "ExcuseTariffs$School" "credits" "[I", Cond.fieldLink RX3 37 "ExcuseTariffs$School" "fines" "[I", Cond.fieldLink RX3 40 "ExcuseTariffs$School" "paid" "[I", Cond.fieldLink RX3 43 "ExcuseTariffs$School" "stamps" "[I", Cond.fieldLink RX3 46 "ExcuseTariffs$School" "refusals" "[I"]
def wsL_law_r3 : List Cond := [Cond.fieldLink RX3 49 "ExcuseTariffs$School" "latestKinds" "[I", Cond.fieldLink RX3 52 "ExcuseTariffs$School" "grudges" "[I", Cond.fieldLink RX3 55 "ExcuseTariffs$School" "refusedFor" "[I", Cond.fieldLink RX3 58 "ExcuseTariffs$School" "termsEnded" "I", Cond.static yX4_copy, Cond.code yX4_copy cX4_copy 2 none, Cond.methodLink RX4 217 Lib.Math.min.name, Cond.static Lib.Math.min.name, Cond.initialized "java/lang/Math", Cond.code Lib.Math.min.name Lib.Math.min.code 2 (some .int), Cond.methodLink RX4 222 arraycopyName, Cond.native arraycopyName, Cond.static arraycopyName, Cond.initialized "java/lang/System", Cond.methodLink RX4 18 yX0_init, Cond.instanceMethod yX0_init, Cond.code yX0_init cX0_init 2 none, Cond.methodLink RX0 3 objectInit, Cond.classLink RX0 9 RX3, Cond.fieldLink RX0 11 "ExcuseTariffs$History" "states" "[LExcuseTariffs$School;", Cond.fieldLink RX0 17 "ExcuseTariffs$History" "next" "I", Cond.fieldLink RX0 21 "ExcuseTariffs$History" "kept" "I", Cond.methodLink RX0 24 yX3_init, Cond.instanceMethod yX1_init]
def wsL_law_r4 : List Cond := [Cond.code yX1_init cX1_init 1 none, Cond.methodLink RX1 3 objectInit, Cond.arrayClass .char, Cond.fieldLink RX1 9 "ExcuseTariffs$Pad" "characters" "[C", Cond.fieldLink RX1 15 "ExcuseTariffs$Pad" "length" "I", Cond.instanceMethod yX2_init, Cond.code yX2_init cX2_init 1 none, Cond.methodLink RX2 3 objectInit, Cond.fieldLink RX2 11 "ExcuseTariffs$Reader" "place" "I", Cond.fieldLink RX2 15 "ExcuseTariffs$Reader" "pupil" "I", Cond.fieldLink RX2 18 "ExcuseTariffs$Reader" "excuse" "I", Cond.fieldLink RX2 21 "ExcuseTariffs$Reader" "minutes" "I", Cond.fieldLink RX2 24 "ExcuseTariffs$Reader" "witness" "I", Cond.methodLink RL 12 yX5_init, Cond.instanceMethod yX5_init, Cond.code yX5_init cX5_init 2 none, Cond.methodLink RX5 1 objectInit, Cond.fieldLink RX5 7 "ExcuseTariffsModel" "z" "[I", Cond.fieldLink RX5 13 "ExcuseTariffsModel" "past" "[I", Cond.fieldLink RX5 16 "ExcuseTariffsModel" "slots" "[I", Cond.fieldLink RX5 19 "ExcuseTariffsModel" "isSaved" "[Z", Cond.fieldLink RX5 23 "ExcuseTariffsModel" "pad" "[I", Cond.methodLink RX5 26 yX5_lay, Cond.instanceMethod yX5_lay]
def wsL_law_r5 : List Cond := [Cond.selects RX5 yX5_lay yX5_lay, Cond.code yX5_lay cX5_lay 4 none, Cond.methodLink RL 13 yX4_set, Cond.instanceMethod yX4_set, Cond.selects RX4 yX4_set yX4_set, Cond.code yX4_set cX4_set 4 (some .int), Cond.fieldLink RX4 45 "ExcuseTariffs" "FIRST_SETTINGS" "[I", Cond.fieldLink RX4 53 "ExcuseTariffs" "LEAST_SETTINGS" "[I", Cond.fieldLink RX4 56 "ExcuseTariffs" "MOST_SETTINGS" "[I", Cond.fieldLink RX4 63 "ExcuseTariffs$School" "settings" "[I", Cond.methodLink RX4 49 yX4_isWithin, Cond.static yX4_isWithin, Cond.code yX4_isWithin cX4_isWithin 3 (some .boolean), Cond.methodLink RX4 59 yX0_keep, Cond.instanceMethod yX0_keep, Cond.selects RX0 yX0_keep yX0_keep, Cond.code yX0_keep cX0_keep 2 none, Cond.methodLink RX0 29 Lib.Math.min.name, Cond.methodLink RX0 25 yX3_become, Cond.instanceMethod yX3_become, Cond.selects RX3 yX3_become yX3_become, Cond.code yX3_become cX3_become 2 none, Cond.methodLink RL 17 yX5_set, Cond.instanceMethod yX5_set]
def wsL_law_r6 : List Cond := [Cond.selects RX5 yX5_set yX5_set, Cond.code yX5_set cX5_set 4 (some .int), Cond.methodLink RX5 75 yX5_isValue, Cond.static yX5_isValue, Cond.code yX5_isValue cX5_isValue 2 (some .boolean), Cond.methodLink RX5 30 yX5_in, Cond.static yX5_in, Cond.code yX5_in cX5_in 3 (some .boolean), Cond.methodLink RX5 42 yX5_record, Cond.instanceMethod yX5_record, Cond.selects RX5 yX5_record yX5_record, Cond.code yX5_record cX5_record 2 none, Cond.fieldLink RX5 34 "ExcuseTariffsModel" "states" "I", Cond.methodLink RX5 38 yX5_copyState, Cond.static yX5_copyState, Cond.code yX5_copyState cX5_copyState 5 none, Cond.methodLink RL 18 yX4_add, Cond.instanceMethod yX4_add, Cond.selects RX4 yX4_add yX4_add, Cond.code yX4_add cX4_add 3 (some .int), Cond.fieldLink RX4 66 "ExcuseTariffs$School" "excuses" "I", Cond.methodLink RX4 70 yX3_addExcuse, Cond.instanceMethod yX3_addExcuse, Cond.selects RX3 yX3_addExcuse yX3_addExcuse]
def wsL_law_r7 : List Cond := [Cond.code yX3_addExcuse cX3_addExcuse 3 (some .int), Cond.methodLink RL 21 yX5_add, Cond.instanceMethod yX5_add, Cond.selects RX5 yX5_add yX5_add, Cond.code yX5_add cX5_add 4 (some .int), Cond.methodLink RL 22 yX4_worth, Cond.instanceMethod yX4_worth, Cond.selects RX4 yX4_worth yX4_worth, Cond.code yX4_worth cX4_worth 4 (some .int), Cond.fieldLink RX4 78 "ExcuseTariffs$School" "worths" "[I", Cond.methodLink RX4 74 yX3_hasExcuse, Cond.instanceMethod yX3_hasExcuse, Cond.selects RX3 yX3_hasExcuse yX3_hasExcuse, Cond.code yX3_hasExcuse cX3_hasExcuse 2 (some .boolean), Cond.methodLink RL 25 yX5_worth, Cond.instanceMethod yX5_worth, Cond.selects RX5 yX5_worth yX5_worth, Cond.code yX5_worth cX5_worth 4 (some .int), Cond.methodLink RX5 79 yX5_isExcuse, Cond.instanceMethod yX5_isExcuse, Cond.selects RX5 yX5_isExcuse yX5_isExcuse, Cond.code yX5_isExcuse cX5_isExcuse 2 (some .boolean), Cond.methodLink RX5 59 yX5_ofExcuse, Cond.instanceMethod yX5_ofExcuse]
def wsL_law_r8 : List Cond := [Cond.selects RX5 yX5_ofExcuse yX5_ofExcuse, Cond.code yX5_ofExcuse cX5_ofExcuse 3 (some .int), Cond.methodLink RL 26 yX4_offer, Cond.instanceMethod yX4_offer, Cond.selects RX4 yX4_offer yX4_offer, Cond.code yX4_offer cX4_offer 6 (some .int), Cond.methodLink RX4 81 yX4_offerError, Cond.instanceMethod yX4_offerError, Cond.selects RX4 yX4_offerError yX4_offerError, Cond.code yX4_offerError cX4_offerError 5 (some .int), Cond.methodLink RX4 88 yX4_isPupil, Cond.static yX4_isPupil, Cond.code yX4_isPupil cX4_isPupil 1 (some .boolean), Cond.methodLink RX4 85 yX3_takeOffer, Cond.instanceMethod yX3_takeOffer, Cond.selects RX3 yX3_takeOffer yX3_takeOffer, Cond.code yX3_takeOffer cX3_takeOffer 6 (some .int), Cond.methodLink RX3 98 yX3_reasonAgainst, Cond.instanceMethod yX3_reasonAgainst, Cond.selects RX3 yX3_reasonAgainst yX3_reasonAgainst, Cond.code yX3_reasonAgainst cX3_reasonAgainst 5 (some .int), Cond.methodLink RX3 65 yX3_usesOf, Cond.instanceMethod yX3_usesOf, Cond.selects RX3 yX3_usesOf yX3_usesOf]
def wsL_law_r9 : List Cond := [Cond.code yX3_usesOf cX3_usesOf 3 (some .int), Cond.methodLink RX3 94 yX3_weightOf, Cond.instanceMethod yX3_weightOf, Cond.selects RX3 yX3_weightOf yX3_weightOf, Cond.code yX3_weightOf cX3_weightOf 6 (some .int), Cond.methodLink RX3 88 yX3_noveltyFor, Cond.instanceMethod yX3_noveltyFor, Cond.selects RX3 yX3_noveltyFor yX3_noveltyFor, Cond.code yX3_noveltyFor cX3_noveltyFor 4 (some .int), Cond.methodLink RX3 79 Lib.Math.max.name, Cond.static Lib.Math.max.name, Cond.code Lib.Math.max.name Lib.Math.max.code 2 (some .int), Cond.methodLink RX3 69 yX3_usesBySchool, Cond.instanceMethod yX3_usesBySchool, Cond.selects RX3 yX3_usesBySchool yX3_usesBySchool, Cond.code yX3_usesBySchool cX3_usesBySchool 4 (some .int), Cond.static yX4_classOf, Cond.code yX4_classOf cX4_classOf 1 (some .int), Cond.methodLink RX3 76 yX3_usesByClass, Cond.instanceMethod yX3_usesByClass, Cond.selects RX3 yX3_usesByClass yX3_usesByClass, Cond.code yX3_usesByClass cX3_usesByClass 4 (some .int), Cond.methodLink RX3 91 yX3_standingOf, Cond.instanceMethod yX3_standingOf]
def wsL_law_r10 : List Cond := [Cond.selects RX3 yX3_standingOf yX3_standingOf, Cond.code yX3_standingOf cX3_standingOf 3 (some .int), Cond.methodLink RX3 101 yX3_stamp, Cond.instanceMethod yX3_stamp, Cond.selects RX3 yX3_stamp yX3_stamp, Cond.code yX3_stamp cX3_stamp 5 none, Cond.methodLink RX3 108 yX3_takeCredit, Cond.instanceMethod yX3_takeCredit, Cond.selects RX3 yX3_takeCredit yX3_takeCredit, Cond.code yX3_takeCredit cX3_takeCredit 3 none, Cond.methodLink RX3 112 yX3_angerMasterOf, Cond.instanceMethod yX3_angerMasterOf, Cond.selects RX3 yX3_angerMasterOf yX3_angerMasterOf, Cond.code yX3_angerMasterOf cX3_angerMasterOf 3 none, Cond.methodLink RX3 116 Lib.Math.min.name, Cond.methodLink RX3 105 yX3_refuse, Cond.instanceMethod yX3_refuse, Cond.selects RX3 yX3_refuse yX3_refuse, Cond.code yX3_refuse cX3_refuse 5 none, Cond.methodLink RL 30 yX5_offer, Cond.instanceMethod yX5_offer, Cond.selects RX5 yX5_offer yX5_offer, Cond.code yX5_offer cX5_offer 6 (some .int), Cond.methodLink RX5 97 yX5_whyNotOffer]
def wsL_law_r11 : List Cond := [Cond.instanceMethod yX5_whyNotOffer, Cond.selects RX5 yX5_whyNotOffer yX5_whyNotOffer, Cond.code yX5_whyNotOffer cX5_whyNotOffer 5 (some .int), Cond.methodLink RX5 83 yX5_isPupil, Cond.static yX5_isPupil, Cond.code yX5_isPupil cX5_isPupil 1 (some .boolean), Cond.methodLink RX5 100 yX5_offerNow, Cond.instanceMethod yX5_offerNow, Cond.selects RX5 yX5_offerNow yX5_offerNow, Cond.code yX5_offerNow cX5_offerNow 6 (some .int), Cond.methodLink RX5 86 yX5_reason, Cond.instanceMethod yX5_reason, Cond.selects RX5 yX5_reason yX5_reason, Cond.code yX5_reason cX5_reason 5 (some .int), Cond.methodLink RX5 45 yX5_uses, Cond.instanceMethod yX5_uses, Cond.selects RX5 yX5_uses yX5_uses, Cond.code yX5_uses cX5_uses 3 (some .int), Cond.methodLink RX5 56 yX5_of, Cond.instanceMethod yX5_of, Cond.selects RX5 yX5_of yX5_of, Cond.code yX5_of cX5_of 3 (some .int), Cond.methodLink RX5 71 yX5_weightOf, Cond.instanceMethod yX5_weightOf]
def wsL_law_r12 : List Cond := [Cond.selects RX5 yX5_weightOf yX5_weightOf, Cond.code yX5_weightOf cX5_weightOf 5 (some .int), Cond.methodLink RX5 62 yX5_noveltyOf, Cond.instanceMethod yX5_noveltyOf, Cond.selects RX5 yX5_noveltyOf yX5_noveltyOf, Cond.code yX5_noveltyOf cX5_noveltyOf 4 (some .int), Cond.methodLink RX5 49 yX5_usesBySchool, Cond.instanceMethod yX5_usesBySchool, Cond.selects RX5 yX5_usesBySchool yX5_usesBySchool, Cond.code yX5_usesBySchool cX5_usesBySchool 4 (some .int), Cond.methodLink RX5 53 yX5_usesByClass, Cond.instanceMethod yX5_usesByClass, Cond.selects RX5 yX5_usesByClass yX5_usesByClass, Cond.code yX5_usesByClass cX5_usesByClass 4 (some .int), Cond.methodLink RX5 65 yX5_grudge, Cond.instanceMethod yX5_grudge, Cond.selects RX5 yX5_grudge yX5_grudge, Cond.code yX5_grudge cX5_grudge 2 (some .int), Cond.methodLink RX5 68 yX5_standsBy, Cond.instanceMethod yX5_standsBy, Cond.selects RX5 yX5_standsBy yX5_standsBy, Cond.code yX5_standsBy cX5_standsBy 4 (some .int), Cond.methodLink RX5 89 yX5_angers, Cond.instanceMethod yX5_angers]
def wsL_law_r13 : List Cond := [Cond.selects RX5 yX5_angers yX5_angers, Cond.code yX5_angers cX5_angers 3 none, Cond.methodLink RX5 93 yX5_loses, Cond.instanceMethod yX5_loses, Cond.selects RX5 yX5_loses yX5_loses, Cond.code yX5_loses cX5_loses 4 none, Cond.methodLink RL 31 yX4_pay, Cond.instanceMethod yX4_pay, Cond.selects RX4 yX4_pay yX4_pay, Cond.code yX4_pay cX4_pay 3 (some .int), Cond.fieldLink RX4 91 "ExcuseTariffs$School" "fines" "[I", Cond.fieldLink RX4 94 "ExcuseTariffs$School" "paid" "[I", Cond.methodLink RL 34 yX5_pay, Cond.instanceMethod yX5_pay, Cond.selects RX5 yX5_pay yX5_pay, Cond.code yX5_pay cX5_pay 3 (some .int), Cond.methodLink RL 35 yX4_endTerm, Cond.instanceMethod yX4_endTerm, Cond.selects RX4 yX4_endTerm yX4_endTerm, Cond.code yX4_endTerm cX4_endTerm 2 (some .int), Cond.fieldLink RX4 97 "ExcuseTariffs$School" "uses" "[I", Cond.methodLink RX4 100 yX4_sum, Cond.static yX4_sum, Cond.code yX4_sum cX4_sum 3 (some .int)]
def wsL_law_r14 : List Cond := [Cond.methodLink RX4 104 yX3_beginNextTerm, Cond.instanceMethod yX3_beginNextTerm, Cond.selects RX3 yX3_beginNextTerm yX3_beginNextTerm, Cond.code yX3_beginNextTerm cX3_beginNextTerm 2 none, Cond.methodLink RL 39 yX5_endTerm, Cond.instanceMethod yX5_endTerm, Cond.selects RX5 yX5_endTerm yX5_endTerm, Cond.code yX5_endTerm cX5_endTerm 3 (some .int), Cond.methodLink RL 40 yX4_read, Cond.instanceMethod yX4_read, Cond.selects RX4 yX4_read yX4_read, Cond.code yX4_read cX4_read 3 (some .int), Cond.fieldLink RX4 114 "ExcuseTariffs$Pad" "length" "I", Cond.fieldLink RX4 117 "ExcuseTariffs$Pad" "characters" "[C", Cond.methodLink RX4 107 yX4_fault, Cond.instanceMethod yX4_fault, Cond.selects RX4 yX4_fault yX4_fault, Cond.code yX4_fault cX4_fault 2 (some .int), Cond.methodLink RX4 111 yX2_begin, Cond.instanceMethod yX2_begin, Cond.selects RX2 yX2_begin yX2_begin, Cond.code yX2_begin cX2_begin 1 none, Cond.methodLink RX4 124 yX2_takes, Cond.instanceMethod yX2_takes]
def wsL_law_r15 : List Cond := [Cond.selects RX2 yX2_takes yX2_takes, Cond.code yX2_takes cX2_takes 2 (some .boolean), Cond.methodLink RX2 27 yX2_takesPupil, Cond.instanceMethod yX2_takesPupil, Cond.selects RX2 yX2_takesPupil yX2_takesPupil, Cond.code yX2_takesPupil cX2_takesPupil 2 (some .boolean), Cond.methodLink RX2 51 yX2_isDigit, Cond.static yX2_isDigit, Cond.code yX2_isDigit cX2_isDigit 1 (some .boolean), Cond.methodLink RX2 34 yX2_goesOn, Cond.instanceMethod yX2_goesOn, Cond.selects RX2 yX2_goesOn yX2_goesOn, Cond.code yX2_goesOn cX2_goesOn 3 (some .boolean), Cond.methodLink RX2 31 yX2_takesExcuse, Cond.instanceMethod yX2_takesExcuse, Cond.selects RX2 yX2_takesExcuse yX2_takesExcuse, Cond.code yX2_takesExcuse cX2_takesExcuse 3 (some .boolean), Cond.methodLink RX2 38 yX2_takesMinutes, Cond.instanceMethod yX2_takesMinutes, Cond.selects RX2 yX2_takesMinutes yX2_takesMinutes, Cond.code yX2_takesMinutes cX2_takesMinutes 4 (some .boolean), Cond.methodLink RX2 42 yX2_takesAfterMinutes, Cond.instanceMethod yX2_takesAfterMinutes, Cond.selects RX2 yX2_takesAfterMinutes yX2_takesAfterMinutes]
def wsL_law_r16 : List Cond := [Cond.code yX2_takesAfterMinutes cX2_takesAfterMinutes 2 (some .boolean), Cond.methodLink RX2 48 yX2_takesComma, Cond.instanceMethod yX2_takesComma, Cond.selects RX2 yX2_takesComma yX2_takesComma, Cond.code yX2_takesComma cX2_takesComma 2 (some .boolean), Cond.methodLink RX2 45 yX2_takesWitness, Cond.instanceMethod yX2_takesWitness, Cond.selects RX2 yX2_takesWitness yX2_takesWitness, Cond.code yX2_takesWitness cX2_takesWitness 3 (some .boolean), Cond.methodLink RX4 195 yX2_canEnd, Cond.instanceMethod yX2_canEnd, Cond.selects RX2 yX2_canEnd yX2_canEnd, Cond.code yX2_canEnd cX2_canEnd 1 (some .boolean), Cond.methodLink RX4 121 yX4_stampsForWhatWasRead, Cond.instanceMethod yX4_stampsForWhatWasRead, Cond.selects RX4 yX4_stampsForWhatWasRead yX4_stampsForWhatWasRead, Cond.code yX4_stampsForWhatWasRead cX4_stampsForWhatWasRead 2 (some .int), Cond.fieldLink RX4 205 "ExcuseTariffs$Reader" "excuse" "I", Cond.fieldLink RX4 208 "ExcuseTariffs$Reader" "pupil" "I", Cond.fieldLink RX4 211 "ExcuseTariffs$Reader" "witness" "I", Cond.fieldLink RX4 214 "ExcuseTariffs$Reader" "minutes" "I", Cond.methodLink RL 43 yX5_read, Cond.instanceMethod yX5_read, Cond.selects RX5 yX5_read yX5_read]
def wsL_law_r17 : List Cond := [Cond.code yX5_read cX5_read 2 (some .int), Cond.fieldLink RX5 105 "ExcuseTariffsModel" "typed" "I", Cond.methodLink RX5 139 yX5_readPad, Cond.instanceMethod yX5_readPad, Cond.selects RX5 yX5_readPad yX5_readPad, Cond.code yX5_readPad cX5_readPad 4 (some .int), Cond.fieldLink RX5 108 "ExcuseTariffsModel" "spot" "I", Cond.fieldLink RX5 123 "ExcuseTariffsModel" "itsExcuse" "I", Cond.fieldLink RX5 120 "ExcuseTariffsModel" "itsPupil" "I", Cond.fieldLink RX5 126 "ExcuseTariffsModel" "itsWitness" "I", Cond.fieldLink RX5 117 "ExcuseTariffsModel" "itsMinutes" "I", Cond.methodLink RX5 136 yX5_readOffer, Cond.instanceMethod yX5_readOffer, Cond.selects RX5 yX5_readOffer yX5_readOffer, Cond.code yX5_readOffer cX5_readOffer 1 (some .boolean), Cond.methodLink RX5 114 yX5_takesOne, Cond.instanceMethod yX5_takesOne, Cond.selects RX5 yX5_takesOne yX5_takesOne, Cond.code yX5_takesOne cX5_takesOne 3 (some .int), Cond.methodLink RX5 111 yX5_sees, Cond.instanceMethod yX5_sees, Cond.selects RX5 yX5_sees yX5_sees, Cond.code yX5_sees cX5_sees 3 (some .boolean), Cond.methodLink RX5 129 yX5_takes]
def wsL_law_r18 : List Cond := [Cond.instanceMethod yX5_takes, Cond.selects RX5 yX5_takes yX5_takes, Cond.code yX5_takes cX5_takes 3 (some .boolean), Cond.methodLink RX5 132 yX5_readMinutes, Cond.instanceMethod yX5_readMinutes, Cond.selects RX5 yX5_readMinutes yX5_readMinutes, Cond.code yX5_readMinutes cX5_readMinutes 1 (some .boolean), Cond.methodLink RL 44 yX4_excuse, Cond.instanceMethod yX4_excuse, Cond.selects RX4 yX4_excuse yX4_excuse, Cond.code yX4_excuse cX4_excuse 3 (some .int), Cond.fieldLink RX4 128 "ExcuseTariffs$School" "kinds" "[I", Cond.fieldLink RX4 135 "ExcuseTariffs$School" "usesInAllTerms" "[I", Cond.methodLink RX4 131 yX3_usesBySchool, Cond.methodLink RX4 138 yX3_usersOf, Cond.instanceMethod yX3_usersOf, Cond.selects RX3 yX3_usersOf yX3_usersOf, Cond.code yX3_usersOf cX3_usersOf 4 (some .int), Cond.methodLink RL 47 yX5_excuse, Cond.instanceMethod yX5_excuse, Cond.selects RX5 yX5_excuse yX5_excuse, Cond.code yX5_excuse cX5_excuse 3 (some .int), Cond.methodLink RX5 143 yX5_users, Cond.instanceMethod yX5_users]
def wsL_law_r19 : List Cond := [Cond.selects RX5 yX5_users yX5_users, Cond.code yX5_users cX5_users 4 (some .int), Cond.methodLink RL 48 yX4_pupil, Cond.instanceMethod yX4_pupil, Cond.selects RX4 yX4_pupil yX4_pupil, Cond.code yX4_pupil cX4_pupil 3 (some .int), Cond.fieldLink RX4 141 "ExcuseTariffs$School" "credits" "[I", Cond.fieldLink RX4 144 "ExcuseTariffs$School" "stamps" "[I", Cond.fieldLink RX4 147 "ExcuseTariffs$School" "refusals" "[I", Cond.fieldLink RX4 150 "ExcuseTariffs$School" "latestKinds" "[I", Cond.fieldLink RX4 156 "ExcuseTariffs$School" "grudges" "[I", Cond.methodLink RX4 153 yX3_usesByPupil, Cond.instanceMethod yX3_usesByPupil, Cond.selects RX3 yX3_usesByPupil yX3_usesByPupil, Cond.code yX3_usesByPupil cX3_usesByPupil 4 (some .int), Cond.methodLink RX4 159 yX4_classOf, Cond.methodLink RL 51 yX5_pupil, Cond.instanceMethod yX5_pupil, Cond.selects RX5 yX5_pupil yX5_pupil, Cond.code yX5_pupil cX5_pupil 3 (some .int), Cond.methodLink RX5 146 yX5_usesBy, Cond.instanceMethod yX5_usesBy, Cond.selects RX5 yX5_usesBy yX5_usesBy, Cond.code yX5_usesBy cX5_usesBy 4 (some .int)]
def wsL_law_r20 : List Cond := [Cond.methodLink RL 52 yX4_novelty, Cond.instanceMethod yX4_novelty, Cond.selects RX4 yX4_novelty yX4_novelty, Cond.code yX4_novelty cX4_novelty 3 (some .int), Cond.methodLink RX4 162 yX3_noveltyFor, Cond.methodLink RL 55 yX5_novelty, Cond.instanceMethod yX5_novelty, Cond.selects RX5 yX5_novelty yX5_novelty, Cond.code yX5_novelty cX5_novelty 3 (some .int), Cond.methodLink RL 56 yX4_why, Cond.instanceMethod yX4_why, Cond.selects RX4 yX4_why yX4_why, Cond.code yX4_why cX4_why 6 (some .int), Cond.methodLink RX4 165 yX3_reasonAgainst, Cond.methodLink RL 59 yX5_why, Cond.instanceMethod yX5_why, Cond.selects RX5 yX5_why yX5_why, Cond.code yX5_why cX5_why 6 (some .int), Cond.methodLink RL 60 yX4_weight, Cond.instanceMethod yX4_weight, Cond.selects RX4 yX4_weight yX4_weight, Cond.code yX4_weight cX4_weight 6 (some .int), Cond.methodLink RX4 168 yX3_weightOf, Cond.methodLink RL 63 yX5_weight]
def wsL_law_r21 : List Cond := [Cond.instanceMethod yX5_weight, Cond.selects RX5 yX5_weight yX5_weight, Cond.code yX5_weight cX5_weight 6 (some .int), Cond.methodLink RL 64 yX4_count, Cond.instanceMethod yX4_count, Cond.selects RX4 yX4_count yX4_count, Cond.code yX4_count cX4_count 2 (some .int), Cond.fieldLink RX4 171 "ExcuseTariffs$School" "refusedFor" "[I", Cond.fieldLink RX4 174 "ExcuseTariffs$School" "termsEnded" "I", Cond.fieldLink RX4 180 "ExcuseTariffs$History" "kept" "I", Cond.methodLink RX4 177 yX3_wornOutExcuses, Cond.instanceMethod yX3_wornOutExcuses, Cond.selects RX3 yX3_wornOutExcuses yX3_wornOutExcuses, Cond.code yX3_wornOutExcuses cX3_wornOutExcuses 3 (some .int), Cond.methodLink RX3 84 yX3_isWornOut, Cond.instanceMethod yX3_isWornOut, Cond.selects RX3 yX3_isWornOut yX3_isWornOut, Cond.code yX3_isWornOut cX3_isWornOut 3 (some .boolean), Cond.methodLink RL 68 yX5_count, Cond.instanceMethod yX5_count, Cond.selects RX5 yX5_count yX5_count, Cond.code yX5_count cX5_count 2 (some .int), Cond.methodLink RX5 149 yX5_sumOfPupils, Cond.instanceMethod yX5_sumOfPupils]
def wsL_law_r22 : List Cond := [Cond.selects RX5 yX5_sumOfPupils yX5_sumOfPupils, Cond.code yX5_sumOfPupils cX5_sumOfPupils 4 (some .int), Cond.methodLink RX5 152 yX5_grudges, Cond.instanceMethod yX5_grudges, Cond.selects RX5 yX5_grudges yX5_grudges, Cond.code yX5_grudges cX5_grudges 3 (some .int), Cond.methodLink RX5 156 yX5_wornOut, Cond.instanceMethod yX5_wornOut, Cond.selects RX5 yX5_wornOut yX5_wornOut, Cond.code yX5_wornOut cX5_wornOut 5 (some .int), Cond.methodLink RL 69 yX4_bestExcuse, Cond.instanceMethod yX4_bestExcuse, Cond.selects RX4 yX4_bestExcuse yX4_bestExcuse, Cond.code yX4_bestExcuse cX4_bestExcuse 7 (some .int), Cond.methodLink RL 72 yX5_bestExcuse, Cond.instanceMethod yX5_bestExcuse, Cond.selects RX5 yX5_bestExcuse yX5_bestExcuse, Cond.code yX5_bestExcuse cX5_bestExcuse 6 (some .int), Cond.methodLink RL 73 yX4_bestWitness, Cond.instanceMethod yX4_bestWitness, Cond.selects RX4 yX4_bestWitness yX4_bestWitness, Cond.code yX4_bestWitness cX4_bestWitness 8 (some .int), Cond.methodLink RL 77 yX5_bestWitness, Cond.instanceMethod yX5_bestWitness]
def wsL_law_r23 : List Cond := [Cond.selects RX5 yX5_bestWitness yX5_bestWitness, Cond.code yX5_bestWitness cX5_bestWitness 7 (some .int), Cond.methodLink RL 78 yX4_mostMinutes, Cond.instanceMethod yX4_mostMinutes, Cond.selects RX4 yX4_mostMinutes yX4_mostMinutes, Cond.code yX4_mostMinutes cX4_mostMinutes 4 (some .int), Cond.methodLink RL 81 yX5_mostMinutes, Cond.instanceMethod yX5_mostMinutes, Cond.selects RX5 yX5_mostMinutes yX5_mostMinutes, Cond.code yX5_mostMinutes cX5_mostMinutes 4 (some .int), Cond.methodLink RL 84 yX4_put, Cond.instanceMethod yX4_put, Cond.selects RX4 yX4_put yX4_put, Cond.code yX4_put cX4_put 5 (some .int), Cond.methodLink RX4 183 yX4_charactersIn, Cond.static yX4_charactersIn, Cond.code yX4_charactersIn cX4_charactersIn 4 (some .int), Cond.methodLink RX4 187 yX4_codeAt, Cond.static yX4_codeAt, Cond.code yX4_codeAt cX4_codeAt 3 (some .int), Cond.methodLink RX4 191 yX1_append, Cond.instanceMethod yX1_append, Cond.selects RX1 yX1_append yX1_append, Cond.code yX1_append cX1_append 2 none]
def wsL_law_r24 : List Cond := [Cond.methodLink RL 88 yX5_put, Cond.instanceMethod yX5_put, Cond.selects RX5 yX5_put yX5_put, Cond.code yX5_put cX5_put 7 (some .int), Cond.constantLong RX5 103 (255), Cond.methodLink RL 89 yX4_wipe, Cond.instanceMethod yX4_wipe, Cond.selects RX4 yX4_wipe yX4_wipe, Cond.code yX4_wipe cX4_wipe 2 (some .int), Cond.methodLink RL 92 yX5_wipe, Cond.instanceMethod yX5_wipe, Cond.selects RX5 yX5_wipe yX5_wipe, Cond.code yX5_wipe cX5_wipe 2 (some .int), Cond.methodLink RL 93 yX4_fault, Cond.methodLink RL 96 yX5_fault, Cond.instanceMethod yX5_fault, Cond.selects RX5 yX5_fault yX5_fault, Cond.code yX5_fault cX5_fault 1 (some .int), Cond.methodLink RL 97 yX4_undo, Cond.instanceMethod yX4_undo, Cond.selects RX4 yX4_undo yX4_undo, Cond.code yX4_undo cX4_undo 1 (some .int), Cond.methodLink RX4 199 yX0_takeBack, Cond.instanceMethod yX0_takeBack]
def wsL_law_r25 : List Cond := [Cond.selects RX0 yX0_takeBack yX0_takeBack, Cond.code yX0_takeBack cX0_takeBack 2 none, Cond.methodLink RL 100 yX5_undo, Cond.instanceMethod yX5_undo, Cond.selects RX5 yX5_undo yX5_undo, Cond.code yX5_undo cX5_undo 1 (some .int), Cond.methodLink RL 101 yX4_save, Cond.instanceMethod yX4_save, Cond.selects RX4 yX4_save yX4_save, Cond.code yX4_save cX4_save 2 (some .int), Cond.methodLink RX4 202 yX3_become, Cond.methodLink RL 104 yX5_save, Cond.instanceMethod yX5_save, Cond.selects RX5 yX5_save yX5_save, Cond.code yX5_save cX5_save 2 (some .int), Cond.methodLink RL 105 yX4_restore, Cond.instanceMethod yX4_restore, Cond.selects RX4 yX4_restore yX4_restore, Cond.code yX4_restore cX4_restore 2 (some .int), Cond.methodLink RL 108 yX5_restore, Cond.instanceMethod yX5_restore, Cond.selects RX5 yX5_restore yX5_restore, Cond.code yX5_restore cX5_restore 2 (some .int)]
def wsL_law : List Cond := (wsL_law_r1 ++ (wsL_law_r2 ++ (wsL_law_r3 ++ (wsL_law_r4 ++ (wsL_law_r5 ++ (wsL_law_r6 ++ (wsL_law_r7 ++ (wsL_law_r8 ++ (wsL_law_r9 ++ (wsL_law_r10 ++ (wsL_law_r11 ++ (wsL_law_r12 ++ (wsL_law_r13 ++ (wsL_law_r14 ++ (wsL_law_r15 ++ (wsL_law_r16 ++ (wsL_law_r17 ++ (wsL_law_r18 ++ (wsL_law_r19 ++ (wsL_law_r20 ++ (wsL_law_r21 ++ (wsL_law_r22 ++ (wsL_law_r23 ++ (wsL_law_r24 ++ wsL_law_r25)))))))))))))))))))))))) ++ wsX40 ++ wsX50 ++ wsX30 ++ wsX00 ++ wsX10 ++ wsX20 ++ ([] : List Cond)
abbrev vwCl : List vw_C := [(RX0, TX0, 3), (RX1, TX1, 2), (RX2, TX2, 5), (RX3, TX3, 15), (RX4, TX4, 6), (RX5, TX5, 12)]
end
section
theorem ml_pos {big : List Cond} (ws : List Cond) (ps : List Nat) (hp : ws = ps.filterMap (fun i => big[i]?)) : ∀ w ∈ ws, w ∈ big := by
  intro w hw
  rw [hp] at hw
  obtain ⟨i, -, hi⟩ := List.mem_filterMap.mp hw
  first | exact List.mem_of_getElem? hi | exact List.getElem?_mem hi
set_option maxRecDepth 20000 in
theorem ml_r1 : ∀ w ∈ wsL_law_r1, w ∈ lw_tbl := ml_pos _ [46, 47, 38, 482, 483, 45, 738, 48, 49, 50, 51, 52, 53, 54, 55, 39, 196, 133, 134, 42, 197, 198, 168, 199] (by decide +kernel)
set_option maxRecDepth 20000 in
theorem ml_r2 : ∀ w ∈ wsL_law_r2, w ∈ lw_tbl := ml_pos _ [153, 154, 43, 200, 170, 171, 44, 201, 56, 57, 58, 59, 132, 71, 73, 75, 77, 79, 81, 83, 85, 87, 89, 91] (by decide +kernel)
set_option maxRecDepth 20000 in
theorem ml_r3 : ∀ w ∈ wsL_law_r3, w ∈ lw_tbl := ml_pos _ [93, 95, 97, 99, 63, 64, 65, 66, 40, 67, 68, 70, 69, 41, 135, 136, 137, 138, 139, 142, 143, 144, 141, 156] (by decide +kernel)
set_option maxRecDepth 20000 in
theorem ml_r4 : ∀ w ∈ wsL_law_r4, w ∈ lw_tbl := ml_pos _ [157, 158, 169, 159, 161, 173, 174, 175, 176, 177, 179, 181, 183, 484, 485, 486, 487, 492, 493, 495, 496, 497, 488, 490] (by decide +kernel)
set_option maxRecDepth 20000 in
theorem ml_r5 : ∀ w ∈ wsL_law_r5, w ∈ lw_tbl := ml_pos _ [9, 491, 215, 216, 217, 218, 219, 223, 225, 72, 220, 221, 222, 227, 228, 229, 230, 235, 231, 232, 233, 234, 551, 552] (by decide +kernel)
set_option maxRecDepth 20000 in
theorem ml_r6 : ∀ w ∈ wsL_law_r6, w ∈ lw_tbl := ml_pos _ [553, 554, 555, 556, 557, 540, 541, 542, 547, 549, 10, 550, 494, 533, 534, 535, 236, 237, 238, 239, 74, 240, 241, 242] (by decide +kernel)
set_option maxRecDepth 20000 in
theorem ml_r7 : ∀ w ∈ wsL_law_r7, w ∈ lw_tbl := ml_pos _ [243, 558, 559, 560, 561, 244, 245, 246, 247, 78, 248, 249, 250, 251, 562, 563, 564, 565, 566, 568, 11, 569, 570, 572] (by decide +kernel)
set_option maxRecDepth 20000 in
theorem ml_r8 : ∀ w ∈ wsL_law_r8, w ∈ lw_tbl := ml_pos _ [12, 573, 252, 253, 254, 255, 256, 258, 0, 259, 260, 261, 262, 263, 264, 265, 266, 267, 268, 269, 270, 271, 272, 273] (by decide +kernel)
set_option maxRecDepth 20000 in
theorem ml_r9 : ∀ w ∈ wsL_law_r9, w ∈ lw_tbl := ml_pos _ [274, 275, 276, 277, 278, 279, 280, 281, 282, 294, 295, 296, 283, 284, 285, 286, 288, 289, 290, 291, 292, 293, 297, 298] (by decide +kernel)
set_option maxRecDepth 20000 in
theorem ml_r10 : ∀ w ∈ wsL_law_r10, w ∈ lw_tbl := ml_pos _ [299, 300, 301, 302, 303, 304, 305, 306, 307, 308, 309, 310, 311, 312, 313, 314, 315, 316, 317, 574, 575, 576, 577, 578] (by decide +kernel)
set_option maxRecDepth 20000 in
theorem ml_r11 : ∀ w ∈ wsL_law_r11, w ∈ lw_tbl := ml_pos _ [580, 13, 581, 582, 583, 584, 585, 587, 14, 588, 589, 591, 15, 592, 593, 595, 16, 596, 597, 599, 17, 600, 601, 603] (by decide +kernel)
set_option maxRecDepth 20000 in
theorem ml_r12 : ∀ w ∈ wsL_law_r12, w ∈ lw_tbl := ml_pos _ [18, 604, 605, 607, 19, 608, 609, 611, 20, 612, 613, 615, 21, 616, 617, 619, 22, 620, 621, 623, 23, 624, 625, 627] (by decide +kernel)
set_option maxRecDepth 20000 in
theorem ml_r13 : ∀ w ∈ wsL_law_r13, w ∈ lw_tbl := ml_pos _ [24, 628, 629, 631, 25, 632, 318, 319, 320, 321, 86, 88, 633, 634, 635, 636, 322, 323, 324, 325, 82, 326, 327, 328] (by decide +kernel)
set_option maxRecDepth 20000 in
theorem ml_r14 : ∀ w ∈ wsL_law_r14, w ∈ lw_tbl := ml_pos _ [329, 330, 331, 332, 637, 638, 639, 640, 333, 334, 335, 336, 162, 160, 337, 338, 339, 340, 341, 342, 343, 344, 345, 346] (by decide +kernel)
set_option maxRecDepth 20000 in
theorem ml_r15 : ∀ w ∈ wsL_law_r15, w ∈ lw_tbl := ml_pos _ [347, 348, 349, 351, 1, 352, 353, 354, 355, 357, 359, 2, 360, 361, 363, 3, 364, 365, 367, 4, 368, 369, 371, 5] (by decide +kernel)
set_option maxRecDepth 20000 in
theorem ml_r16 : ∀ w ∈ wsL_law_r16, w ∈ lw_tbl := ml_pos _ [372, 373, 375, 6, 376, 377, 379, 7, 380, 381, 382, 383, 384, 385, 387, 8, 388, 180, 178, 184, 182, 678, 679, 680] (by decide +kernel)
set_option maxRecDepth 20000 in
theorem ml_r17 : ∀ w ∈ wsL_law_r17, w ∈ lw_tbl := ml_pos _ [681, 498, 654, 656, 26, 657, 499, 501, 500, 503, 502, 658, 660, 27, 661, 662, 664, 28, 665, 666, 668, 29, 669, 670] (by decide +kernel)
set_option maxRecDepth 20000 in
theorem ml_r18 : ∀ w ∈ wsL_law_r18, w ∈ lw_tbl := ml_pos _ [672, 30, 673, 674, 676, 31, 677, 389, 390, 391, 392, 76, 80, 393, 394, 395, 396, 397, 682, 683, 684, 685, 686, 688] (by decide +kernel)
set_option maxRecDepth 20000 in
theorem ml_r19 : ∀ w ∈ wsL_law_r19, w ∈ lw_tbl := ml_pos _ [32, 689, 398, 399, 400, 401, 84, 90, 92, 94, 96, 402, 403, 404, 405, 406, 690, 691, 692, 693, 694, 696, 33, 697] (by decide +kernel)
set_option maxRecDepth 20000 in
theorem ml_r20 : ∀ w ∈ wsL_law_r20, w ∈ lw_tbl := ml_pos _ [407, 408, 409, 410, 411, 698, 699, 700, 701, 412, 413, 414, 415, 416, 702, 703, 704, 705, 417, 418, 419, 420, 421, 706] (by decide +kernel)
set_option maxRecDepth 20000 in
theorem ml_r21 : ∀ w ∈ wsL_law_r21, w ∈ lw_tbl := ml_pos _ [707, 708, 709, 422, 423, 424, 425, 98, 100, 145, 426, 427, 428, 429, 430, 431, 432, 433, 710, 711, 712, 713, 714, 716] (by decide +kernel)
set_option maxRecDepth 20000 in
theorem ml_r22 : ∀ w ∈ wsL_law_r22, w ∈ lw_tbl := ml_pos _ [34, 717, 718, 720, 35, 721, 722, 724, 36, 725, 434, 435, 436, 437, 726, 727, 728, 729, 438, 439, 440, 441, 730, 731] (by decide +kernel)
set_option maxRecDepth 20000 in
theorem ml_r23 : ∀ w ∈ wsL_law_r23, w ∈ lw_tbl := ml_pos _ [732, 733, 442, 443, 444, 445, 734, 735, 736, 737, 446, 447, 448, 449, 450, 451, 452, 453, 454, 455, 456, 457, 458, 459] (by decide +kernel)
set_option maxRecDepth 20000 in
theorem ml_r24 : ∀ w ∈ wsL_law_r24, w ∈ lw_tbl := ml_pos _ [641, 642, 643, 644, 645, 460, 461, 462, 463, 646, 647, 648, 649, 464, 650, 651, 652, 653, 465, 466, 467, 468, 469, 470] (by decide +kernel)
set_option maxRecDepth 20000 in
theorem ml_r25 : ∀ w ∈ wsL_law_r25, w ∈ lw_tbl := ml_pos _ [471, 472, 529, 530, 531, 532, 473, 474, 475, 476, 477, 536, 537, 538, 539, 478, 479, 480, 481, 543, 544, 545, 546] (by decide +kernel)
set_option maxRecDepth 20000 in
theorem inX0 : ∀ w ∈ wsX00, w ∈ lw_tbl := ml_pos _ [146, 148, 150] (by decide +kernel)
set_option maxRecDepth 20000 in
theorem inX1 : ∀ w ∈ wsX10, w ∈ lw_tbl := ml_pos _ [163, 165] (by decide +kernel)
set_option maxRecDepth 20000 in
theorem inX2 : ∀ w ∈ wsX20, w ∈ lw_tbl := ml_pos _ [185, 187, 189, 191, 193] (by decide +kernel)
set_option maxRecDepth 20000 in
theorem inX3 : ∀ w ∈ wsX30, w ∈ lw_tbl := ml_pos _ [101, 103, 105, 107, 109, 111, 113, 115, 117, 119, 121, 123, 125, 127, 129] (by decide +kernel)
set_option maxRecDepth 20000 in
theorem inX4 : ∀ w ∈ wsX40, w ∈ lw_tbl := ml_pos _ [202, 204, 206, 208, 210, 212] (by decide +kernel)
set_option maxRecDepth 20000 in
theorem inX5 : ∀ w ∈ wsX50, w ∈ lw_tbl := ml_pos _ [504, 506, 508, 510, 512, 514, 516, 518, 520, 522, 524, 526] (by decide +kernel)
theorem wsL_law_in : ∀ w ∈ wsL_law, w ∈ lw_tbl := List.forall_mem_append.mpr ⟨List.forall_mem_append.mpr ⟨List.forall_mem_append.mpr ⟨List.forall_mem_append.mpr ⟨List.forall_mem_append.mpr ⟨List.forall_mem_append.mpr ⟨List.forall_mem_append.mpr ⟨List.forall_mem_append.mpr ⟨ml_r1, List.forall_mem_append.mpr ⟨ml_r2, List.forall_mem_append.mpr ⟨ml_r3, List.forall_mem_append.mpr ⟨ml_r4, List.forall_mem_append.mpr ⟨ml_r5, List.forall_mem_append.mpr ⟨ml_r6, List.forall_mem_append.mpr ⟨ml_r7, List.forall_mem_append.mpr ⟨ml_r8, List.forall_mem_append.mpr ⟨ml_r9, List.forall_mem_append.mpr ⟨ml_r10, List.forall_mem_append.mpr ⟨ml_r11, List.forall_mem_append.mpr ⟨ml_r12, List.forall_mem_append.mpr ⟨ml_r13, List.forall_mem_append.mpr ⟨ml_r14, List.forall_mem_append.mpr ⟨ml_r15, List.forall_mem_append.mpr ⟨ml_r16, List.forall_mem_append.mpr ⟨ml_r17, List.forall_mem_append.mpr ⟨ml_r18, List.forall_mem_append.mpr ⟨ml_r19, List.forall_mem_append.mpr ⟨ml_r20, List.forall_mem_append.mpr ⟨ml_r21, List.forall_mem_append.mpr ⟨ml_r22, List.forall_mem_append.mpr ⟨ml_r23, List.forall_mem_append.mpr ⟨ml_r24, ml_r25⟩⟩⟩⟩⟩⟩⟩⟩⟩⟩⟩⟩⟩⟩⟩⟩⟩⟩⟩⟩⟩⟩⟩⟩, inX4⟩, inX5⟩, inX3⟩, inX0⟩, inX1⟩, inX2⟩, fun _ h => absurd h List.not_mem_nil⟩
end
section
theorem inlX0 : ∀ w ∈ wsX00, w ∈ wsL_law := fun _ h => List.mem_append_left _ (List.mem_append_left _ (List.mem_append_left _ (List.mem_append_right _ h)))
set_option maxRecDepth 20000 in
theorem ggX0_init_X3_init : GoodIn wsX0_init wsX3_init := goodIn_r _ [12, 13, 2, 3, 14, 15, 16, 17, 18, 19, 20, 21, 22, 23, 24, 25, 26, 27, 28, 29, 30, 31, 32, 33, 34, 35, 36, 37, 38, 39, 40, 44, 45, 46, 47, 48, 49, 50, 51, 52, 53, 54, 55, 56, 57, 58] (by decide +kernel) (by decide +kernel)
set_option maxRecDepth 20000 in
theorem gX0_init_X3_init : GoodIn wsX0_init (wsX3_init) := ggX0_init_X3_init
theorem dX0_init_0 : decode cX0_init 0 = .ok (.aload_n 0, 1) := by decide +kernel
theorem dX0_init_1 : decode cX0_init 1 = .ok (.invokespecial 3, 3) := by decide +kernel
theorem dX0_init_4 : decode cX0_init 4 = .ok (.aload_n 0, 1) := by decide +kernel
theorem dX0_init_5 : decode cX0_init 5 = .ok (.bipush 6, 2) := by decide +kernel
theorem dX0_init_7 : decode cX0_init 7 = .ok (.anewarray 9, 3) := by decide +kernel
theorem dX0_init_10 : decode cX0_init 10 = .ok (.putfield 11, 3) := by decide +kernel
theorem dX0_init_13 : decode cX0_init 13 = .ok (.aload_n 0, 1) := by decide +kernel
theorem dX0_init_14 : decode cX0_init 14 = .ok (.iconst 0, 1) := by decide +kernel
theorem dX0_init_15 : decode cX0_init 15 = .ok (.putfield 17, 3) := by decide +kernel
theorem dX0_init_18 : decode cX0_init 18 = .ok (.aload_n 0, 1) := by decide +kernel
theorem dX0_init_19 : decode cX0_init 19 = .ok (.iconst 0, 1) := by decide +kernel
theorem dX0_init_20 : decode cX0_init 20 = .ok (.putfield 21, 3) := by decide +kernel
theorem dX0_init_23 : decode cX0_init 23 = .ok (.iconst 0, 1) := by decide +kernel
theorem dX0_init_24 : decode cX0_init 24 = .ok (.istore_n 1, 1) := by decide +kernel
theorem dX0_init_25 : decode cX0_init 25 = .ok (.iload_n 1, 1) := by decide +kernel
theorem dX0_init_26 : decode cX0_init 26 = .ok (.bipush 6, 2) := by decide +kernel
theorem dX0_init_28 : decode cX0_init 28 = .ok (.if_icmp .ge 22, 3) := by decide +kernel
theorem dX0_init_31 : decode cX0_init 31 = .ok (.aload_n 0, 1) := by decide +kernel
theorem dX0_init_32 : decode cX0_init 32 = .ok (.getfield 11, 3) := by decide +kernel
theorem dX0_init_35 : decode cX0_init 35 = .ok (.iload_n 1, 1) := by decide +kernel
theorem dX0_init_36 : decode cX0_init 36 = .ok (.new 9, 3) := by decide +kernel
theorem dX0_init_39 : decode cX0_init 39 = .ok (.dup, 1) := by decide +kernel
theorem dX0_init_40 : decode cX0_init 40 = .ok (.invokespecial 24, 3) := by decide +kernel
theorem dX0_init_43 : decode cX0_init 43 = .ok (.aastore, 1) := by decide +kernel
theorem dX0_init_44 : decode cX0_init 44 = .ok (.iinc 1 1, 3) := by decide +kernel
theorem dX0_init_47 : decode cX0_init 47 = .ok (.goto (-22), 3) := by decide +kernel
theorem dX0_init_50 : decode cX0_init 50 = .ok (.return_, 1) := by decide +kernel
set_option maxRecDepth 20000 in
theorem ggX0_keep_X3_become : GoodIn wsX0_keep wsX3_become := goodIn_r _ [12, 13, 14, 15, 16, 17, 18, 19, 20, 21, 22, 23, 24, 25, 26, 27, 28, 29, 30, 31, 5, 6, 7, 32, 33, 34, 35, 39, 40, 41, 42, 43, 44, 45, 46, 47, 48, 49, 50, 51, 52, 53] (by decide +kernel) (by decide +kernel)
set_option maxRecDepth 20000 in
theorem gX0_keep_X3_become : GoodIn wsX0_keep (wsV RX0 25 RX3 yX3_become wsX3_become) := goodIn_app (goodIn_of _ (by decide +kernel)) ggX0_keep_X3_become
theorem dX0_keep_0 : decode cX0_keep 0 = .ok (.aload_n 0, 1) := by decide +kernel
theorem dX0_keep_1 : decode cX0_keep 1 = .ok (.getfield 11, 3) := by decide +kernel
theorem dX0_keep_4 : decode cX0_keep 4 = .ok (.aload_n 0, 1) := by decide +kernel
theorem dX0_keep_5 : decode cX0_keep 5 = .ok (.getfield 17, 3) := by decide +kernel
theorem dX0_keep_8 : decode cX0_keep 8 = .ok (.aaload, 1) := by decide +kernel
theorem dX0_keep_9 : decode cX0_keep 9 = .ok (.aload_n 1, 1) := by decide +kernel
theorem dX0_keep_10 : decode cX0_keep 10 = .ok (.invokevirtual 25, 3) := by decide +kernel
theorem dX0_keep_13 : decode cX0_keep 13 = .ok (.aload_n 0, 1) := by decide +kernel
theorem dX0_keep_14 : decode cX0_keep 14 = .ok (.aload_n 0, 1) := by decide +kernel
theorem dX0_keep_15 : decode cX0_keep 15 = .ok (.getfield 17, 3) := by decide +kernel
theorem dX0_keep_18 : decode cX0_keep 18 = .ok (.iconst 1, 1) := by decide +kernel
theorem dX0_keep_19 : decode cX0_keep 19 = .ok (.iadd, 1) := by decide +kernel
theorem dX0_keep_20 : decode cX0_keep 20 = .ok (.bipush 6, 2) := by decide +kernel
theorem dX0_keep_22 : decode cX0_keep 22 = .ok (.irem, 1) := by decide +kernel
theorem dX0_keep_23 : decode cX0_keep 23 = .ok (.putfield 17, 3) := by decide +kernel
theorem dX0_keep_26 : decode cX0_keep 26 = .ok (.aload_n 0, 1) := by decide +kernel
theorem dX0_keep_27 : decode cX0_keep 27 = .ok (.bipush 6, 2) := by decide +kernel
theorem dX0_keep_29 : decode cX0_keep 29 = .ok (.aload_n 0, 1) := by decide +kernel
theorem dX0_keep_30 : decode cX0_keep 30 = .ok (.getfield 21, 3) := by decide +kernel
theorem dX0_keep_33 : decode cX0_keep 33 = .ok (.iconst 1, 1) := by decide +kernel
theorem dX0_keep_34 : decode cX0_keep 34 = .ok (.iadd, 1) := by decide +kernel
theorem dX0_keep_35 : decode cX0_keep 35 = .ok (.invokestatic 29, 3) := by decide +kernel
theorem dX0_keep_38 : decode cX0_keep 38 = .ok (.putfield 21, 3) := by decide +kernel
theorem dX0_keep_41 : decode cX0_keep 41 = .ok (.return_, 1) := by decide +kernel
set_option maxRecDepth 20000 in
theorem ggX0_takeBack_X3_become : GoodIn wsX0_takeBack wsX3_become := goodIn_r _ [8, 9, 10, 11, 12, 13, 14, 15, 16, 17, 18, 19, 20, 21, 22, 23, 24, 25, 26, 27, 28, 29, 30, 31, 32, 33, 34, 38, 39, 40, 41, 42, 43, 44, 45, 46, 47, 48, 49, 50, 51, 52] (by decide +kernel) (by decide +kernel)
set_option maxRecDepth 20000 in
theorem gX0_takeBack_X3_become : GoodIn wsX0_takeBack (wsV RX0 25 RX3 yX3_become wsX3_become) := goodIn_app (goodIn_of _ (by decide +kernel)) ggX0_takeBack_X3_become
theorem dX0_takeBack_0 : decode cX0_takeBack 0 = .ok (.aload_n 0, 1) := by decide +kernel
theorem dX0_takeBack_1 : decode cX0_takeBack 1 = .ok (.aload_n 0, 1) := by decide +kernel
theorem dX0_takeBack_2 : decode cX0_takeBack 2 = .ok (.getfield 17, 3) := by decide +kernel
theorem dX0_takeBack_5 : decode cX0_takeBack 5 = .ok (.bipush 6, 2) := by decide +kernel
theorem dX0_takeBack_7 : decode cX0_takeBack 7 = .ok (.iadd, 1) := by decide +kernel
theorem dX0_takeBack_8 : decode cX0_takeBack 8 = .ok (.iconst 1, 1) := by decide +kernel
theorem dX0_takeBack_9 : decode cX0_takeBack 9 = .ok (.isub, 1) := by decide +kernel
theorem dX0_takeBack_10 : decode cX0_takeBack 10 = .ok (.bipush 6, 2) := by decide +kernel
theorem dX0_takeBack_12 : decode cX0_takeBack 12 = .ok (.irem, 1) := by decide +kernel
theorem dX0_takeBack_13 : decode cX0_takeBack 13 = .ok (.putfield 17, 3) := by decide +kernel
theorem dX0_takeBack_16 : decode cX0_takeBack 16 = .ok (.aload_n 0, 1) := by decide +kernel
theorem dX0_takeBack_17 : decode cX0_takeBack 17 = .ok (.dup, 1) := by decide +kernel
theorem dX0_takeBack_18 : decode cX0_takeBack 18 = .ok (.getfield 21, 3) := by decide +kernel
theorem dX0_takeBack_21 : decode cX0_takeBack 21 = .ok (.iconst 1, 1) := by decide +kernel
theorem dX0_takeBack_22 : decode cX0_takeBack 22 = .ok (.isub, 1) := by decide +kernel
theorem dX0_takeBack_23 : decode cX0_takeBack 23 = .ok (.putfield 21, 3) := by decide +kernel
theorem dX0_takeBack_26 : decode cX0_takeBack 26 = .ok (.aload_n 1, 1) := by decide +kernel
theorem dX0_takeBack_27 : decode cX0_takeBack 27 = .ok (.aload_n 0, 1) := by decide +kernel
theorem dX0_takeBack_28 : decode cX0_takeBack 28 = .ok (.getfield 11, 3) := by decide +kernel
theorem dX0_takeBack_31 : decode cX0_takeBack 31 = .ok (.aload_n 0, 1) := by decide +kernel
theorem dX0_takeBack_32 : decode cX0_takeBack 32 = .ok (.getfield 17, 3) := by decide +kernel
theorem dX0_takeBack_35 : decode cX0_takeBack 35 = .ok (.aaload, 1) := by decide +kernel
theorem dX0_takeBack_36 : decode cX0_takeBack 36 = .ok (.invokevirtual 25, 3) := by decide +kernel
theorem dX0_takeBack_39 : decode cX0_takeBack 39 = .ok (.return_, 1) := by decide +kernel
theorem inlX1 : ∀ w ∈ wsX10, w ∈ wsL_law := fun _ h => List.mem_append_left _ (List.mem_append_left _ (List.mem_append_right _ h))
theorem dX1_init_0 : decode cX1_init 0 = .ok (.aload_n 0, 1) := by decide +kernel
theorem dX1_init_1 : decode cX1_init 1 = .ok (.invokespecial 3, 3) := by decide +kernel
theorem dX1_init_4 : decode cX1_init 4 = .ok (.aload_n 0, 1) := by decide +kernel
theorem dX1_init_5 : decode cX1_init 5 = .ok (.bipush 60, 2) := by decide +kernel
theorem dX1_init_7 : decode cX1_init 7 = .ok (.newarray .char, 2) := by decide +kernel
theorem dX1_init_9 : decode cX1_init 9 = .ok (.putfield 9, 3) := by decide +kernel
theorem dX1_init_12 : decode cX1_init 12 = .ok (.aload_n 0, 1) := by decide +kernel
theorem dX1_init_13 : decode cX1_init 13 = .ok (.iconst 0, 1) := by decide +kernel
theorem dX1_init_14 : decode cX1_init 14 = .ok (.putfield 15, 3) := by decide +kernel
theorem dX1_init_17 : decode cX1_init 17 = .ok (.return_, 1) := by decide +kernel
theorem dX1_append_0 : decode cX1_append 0 = .ok (.aload_n 0, 1) := by decide +kernel
theorem dX1_append_1 : decode cX1_append 1 = .ok (.getfield 15, 3) := by decide +kernel
theorem dX1_append_4 : decode cX1_append 4 = .ok (.bipush 60, 2) := by decide +kernel
theorem dX1_append_6 : decode cX1_append 6 = .ok (.if_icmp .ge 23, 3) := by decide +kernel
theorem dX1_append_9 : decode cX1_append 9 = .ok (.aload_n 0, 1) := by decide +kernel
theorem dX1_append_10 : decode cX1_append 10 = .ok (.getfield 9, 3) := by decide +kernel
theorem dX1_append_13 : decode cX1_append 13 = .ok (.aload_n 0, 1) := by decide +kernel
theorem dX1_append_14 : decode cX1_append 14 = .ok (.getfield 15, 3) := by decide +kernel
theorem dX1_append_17 : decode cX1_append 17 = .ok (.iload_n 1, 1) := by decide +kernel
theorem dX1_append_18 : decode cX1_append 18 = .ok (.castore, 1) := by decide +kernel
theorem dX1_append_19 : decode cX1_append 19 = .ok (.aload_n 0, 1) := by decide +kernel
theorem dX1_append_20 : decode cX1_append 20 = .ok (.dup, 1) := by decide +kernel
theorem dX1_append_21 : decode cX1_append 21 = .ok (.getfield 15, 3) := by decide +kernel
theorem dX1_append_24 : decode cX1_append 24 = .ok (.iconst 1, 1) := by decide +kernel
theorem dX1_append_25 : decode cX1_append 25 = .ok (.iadd, 1) := by decide +kernel
theorem dX1_append_26 : decode cX1_append 26 = .ok (.putfield 15, 3) := by decide +kernel
theorem dX1_append_29 : decode cX1_append 29 = .ok (.return_, 1) := by decide +kernel
theorem inlX2 : ∀ w ∈ wsX20, w ∈ wsL_law := fun _ h => List.mem_append_left _ (List.mem_append_right _ h)
theorem dX2_init_0 : decode cX2_init 0 = .ok (.aload_n 0, 1) := by decide +kernel
theorem dX2_init_1 : decode cX2_init 1 = .ok (.invokespecial 3, 3) := by decide +kernel
theorem dX2_init_4 : decode cX2_init 4 = .ok (.aload_n 0, 1) := by decide +kernel
theorem dX2_init_5 : decode cX2_init 5 = .ok (.iconst 0, 1) := by decide +kernel
theorem dX2_init_6 : decode cX2_init 6 = .ok (.putfield 11, 3) := by decide +kernel
theorem dX2_init_9 : decode cX2_init 9 = .ok (.aload_n 0, 1) := by decide +kernel
theorem dX2_init_10 : decode cX2_init 10 = .ok (.iconst 0, 1) := by decide +kernel
theorem dX2_init_11 : decode cX2_init 11 = .ok (.putfield 15, 3) := by decide +kernel
theorem dX2_init_14 : decode cX2_init 14 = .ok (.aload_n 0, 1) := by decide +kernel
theorem dX2_init_15 : decode cX2_init 15 = .ok (.iconst 0, 1) := by decide +kernel
theorem dX2_init_16 : decode cX2_init 16 = .ok (.putfield 18, 3) := by decide +kernel
theorem dX2_init_19 : decode cX2_init 19 = .ok (.aload_n 0, 1) := by decide +kernel
theorem dX2_init_20 : decode cX2_init 20 = .ok (.iconst 0, 1) := by decide +kernel
theorem dX2_init_21 : decode cX2_init 21 = .ok (.putfield 21, 3) := by decide +kernel
theorem dX2_init_24 : decode cX2_init 24 = .ok (.aload_n 0, 1) := by decide +kernel
theorem dX2_init_25 : decode cX2_init 25 = .ok (.bipush (-6), 2) := by decide +kernel
theorem dX2_init_27 : decode cX2_init 27 = .ok (.putfield 24, 3) := by decide +kernel
theorem dX2_init_30 : decode cX2_init 30 = .ok (.return_, 1) := by decide +kernel
theorem dX2_begin_0 : decode cX2_begin 0 = .ok (.aload_n 0, 1) := by decide +kernel
theorem dX2_begin_1 : decode cX2_begin 1 = .ok (.iconst 0, 1) := by decide +kernel
theorem dX2_begin_2 : decode cX2_begin 2 = .ok (.putfield 11, 3) := by decide +kernel
theorem dX2_begin_5 : decode cX2_begin 5 = .ok (.aload_n 0, 1) := by decide +kernel
theorem dX2_begin_6 : decode cX2_begin 6 = .ok (.bipush (-6), 2) := by decide +kernel
theorem dX2_begin_8 : decode cX2_begin 8 = .ok (.putfield 24, 3) := by decide +kernel
theorem dX2_begin_11 : decode cX2_begin 11 = .ok (.return_, 1) := by decide +kernel
set_option maxRecDepth 20000 in
theorem ggX2_takes_X2_takesPupil : GoodIn wsX2_takes wsX2_takesPupil := goodIn_r _ [7, 8, 9, 10, 6, 11, 12, 13, 14, 15, 16, 17, 18, 1, 41, 42, 43, 44, 45] (by decide +kernel) (by decide +kernel)
set_option maxRecDepth 20000 in
theorem gX2_takes_X2_takesPupil : GoodIn wsX2_takes (wsV RX2 27 RX2 yX2_takesPupil wsX2_takesPupil) := goodIn_app (goodIn_of _ (by decide +kernel)) ggX2_takes_X2_takesPupil
set_option maxRecDepth 20000 in
theorem ggX2_takes_X2_takesExcuse : GoodIn wsX2_takes wsX2_takesExcuse := goodIn_r _ [22, 23, 12, 13, 14, 15, 16, 17, 6, 18, 1, 41, 42, 43, 44, 45] (by decide +kernel) (by decide +kernel)
set_option maxRecDepth 20000 in
theorem gX2_takes_X2_takesExcuse : GoodIn wsX2_takes (wsV RX2 31 RX2 yX2_takesExcuse wsX2_takesExcuse) := goodIn_app (goodIn_of _ (by decide +kernel)) ggX2_takes_X2_takesExcuse
set_option maxRecDepth 20000 in
theorem ggX2_takes_X2_goesOn : GoodIn wsX2_takes wsX2_goesOn := goodIn_r _ [18, 1, 41, 42, 43, 44, 45] (by decide +kernel) (by decide +kernel)
set_option maxRecDepth 20000 in
theorem gX2_takes_X2_goesOn : GoodIn wsX2_takes (wsV RX2 34 RX2 yX2_goesOn wsX2_goesOn) := goodIn_app (goodIn_of _ (by decide +kernel)) ggX2_takes_X2_goesOn
set_option maxRecDepth 20000 in
theorem ggX2_takes_X2_takesMinutes : GoodIn wsX2_takes wsX2_takesMinutes := goodIn_r _ [27, 2, 9, 10, 6, 11, 12, 13, 14, 15, 16, 17, 18, 1, 41, 42, 43, 44, 45] (by decide +kernel) (by decide +kernel)
set_option maxRecDepth 20000 in
theorem gX2_takes_X2_takesMinutes : GoodIn wsX2_takes (wsV RX2 38 RX2 yX2_takesMinutes wsX2_takesMinutes) := goodIn_app (goodIn_of _ (by decide +kernel)) ggX2_takes_X2_takesMinutes
set_option maxRecDepth 20000 in
theorem ggX2_takes_X2_takesAfterMinutes : GoodIn wsX2_takes wsX2_takesAfterMinutes := goodIn_r _ [31, 15, 16, 17, 6, 18, 1, 32, 33, 34, 35, 36, 41, 42, 43, 44, 45] (by decide +kernel) (by decide +kernel)
set_option maxRecDepth 20000 in
theorem gX2_takes_X2_takesAfterMinutes : GoodIn wsX2_takes (wsV RX2 42 RX2 yX2_takesAfterMinutes wsX2_takesAfterMinutes) := goodIn_app (goodIn_of _ (by decide +kernel)) ggX2_takes_X2_takesAfterMinutes
set_option maxRecDepth 20000 in
theorem ggX2_takes_X2_takesWitness : GoodIn wsX2_takes wsX2_takesWitness := goodIn_r _ [40, 8, 36, 9, 10, 6, 11, 12, 13, 14, 15, 16, 17, 18, 1, 41, 42, 43, 44, 45] (by decide +kernel) (by decide +kernel)
set_option maxRecDepth 20000 in
theorem gX2_takes_X2_takesWitness : GoodIn wsX2_takes (wsV RX2 45 RX2 yX2_takesWitness wsX2_takesWitness) := goodIn_app (goodIn_of _ (by decide +kernel)) ggX2_takes_X2_takesWitness
set_option maxRecDepth 20000 in
theorem ggX2_takes_X2_takesComma : GoodIn wsX2_takes wsX2_takesComma := goodIn_r _ [35, 36, 15, 16, 17, 6, 18, 1, 41, 42, 43, 44, 45] (by decide +kernel) (by decide +kernel)
set_option maxRecDepth 20000 in
theorem gX2_takes_X2_takesComma : GoodIn wsX2_takes (wsV RX2 48 RX2 yX2_takesComma wsX2_takesComma) := goodIn_app (goodIn_of _ (by decide +kernel)) ggX2_takes_X2_takesComma
theorem dX2_takes_0 : decode cX2_takes 0 = .ok (.aload_n 0, 1) := by decide +kernel
theorem dX2_takes_1 : decode cX2_takes 1 = .ok (.getfield 11, 3) := by decide +kernel
theorem dX2_takes_4 : decode cX2_takes 4 = .ok (.tableswitch 134 0 6 #[44, 50, 56, 73, 95, 122, 128], 44) := by decide +kernel
theorem dX2_takes_48 : decode cX2_takes 48 = .ok (.aload_n 0, 1) := by decide +kernel
theorem dX2_takes_49 : decode cX2_takes 49 = .ok (.iload_n 1, 1) := by decide +kernel
theorem dX2_takes_50 : decode cX2_takes 50 = .ok (.invokevirtual 27, 3) := by decide +kernel
theorem dX2_takes_53 : decode cX2_takes 53 = .ok (.ireturn, 1) := by decide +kernel
theorem dX2_takes_54 : decode cX2_takes 54 = .ok (.aload_n 0, 1) := by decide +kernel
theorem dX2_takes_55 : decode cX2_takes 55 = .ok (.iload_n 1, 1) := by decide +kernel
theorem dX2_takes_56 : decode cX2_takes 56 = .ok (.invokevirtual 31, 3) := by decide +kernel
theorem dX2_takes_59 : decode cX2_takes 59 = .ok (.ireturn, 1) := by decide +kernel
theorem dX2_takes_60 : decode cX2_takes 60 = .ok (.aload_n 0, 1) := by decide +kernel
theorem dX2_takes_61 : decode cX2_takes 61 = .ok (.iload_n 1, 1) := by decide +kernel
theorem dX2_takes_62 : decode cX2_takes 62 = .ok (.bipush 109, 2) := by decide +kernel
theorem dX2_takes_64 : decode cX2_takes 64 = .ok (.if_icmp .ne 7, 3) := by decide +kernel
theorem dX2_takes_67 : decode cX2_takes 67 = .ok (.iconst 1, 1) := by decide +kernel
theorem dX2_takes_68 : decode cX2_takes 68 = .ok (.goto 4, 3) := by decide +kernel
theorem dX2_takes_71 : decode cX2_takes 71 = .ok (.iconst 0, 1) := by decide +kernel
theorem dX2_takes_72 : decode cX2_takes 72 = .ok (.iconst 3, 1) := by decide +kernel
theorem dX2_takes_73 : decode cX2_takes 73 = .ok (.invokevirtual 34, 3) := by decide +kernel
theorem dX2_takes_76 : decode cX2_takes 76 = .ok (.ireturn, 1) := by decide +kernel
theorem dX2_takes_77 : decode cX2_takes 77 = .ok (.iload_n 1, 1) := by decide +kernel
theorem dX2_takes_78 : decode cX2_takes 78 = .ok (.bipush 48, 2) := by decide +kernel
theorem dX2_takes_80 : decode cX2_takes 80 = .ok (.if_icmp .eq 17, 3) := by decide +kernel
theorem dX2_takes_83 : decode cX2_takes 83 = .ok (.aload_n 0, 1) := by decide +kernel
theorem dX2_takes_84 : decode cX2_takes 84 = .ok (.iload_n 1, 1) := by decide +kernel
theorem dX2_takes_85 : decode cX2_takes 85 = .ok (.iconst 0, 1) := by decide +kernel
theorem dX2_takes_86 : decode cX2_takes 86 = .ok (.iconst 4, 1) := by decide +kernel
theorem dX2_takes_87 : decode cX2_takes 87 = .ok (.invokevirtual 38, 3) := by decide +kernel
theorem dX2_takes_90 : decode cX2_takes 90 = .ok (.ifCond .eq 7, 3) := by decide +kernel
theorem dX2_takes_93 : decode cX2_takes 93 = .ok (.iconst 1, 1) := by decide +kernel
theorem dX2_takes_94 : decode cX2_takes 94 = .ok (.goto 4, 3) := by decide +kernel
theorem dX2_takes_97 : decode cX2_takes 97 = .ok (.iconst 0, 1) := by decide +kernel
theorem dX2_takes_98 : decode cX2_takes 98 = .ok (.ireturn, 1) := by decide +kernel
theorem dX2_takes_99 : decode cX2_takes 99 = .ok (.aload_n 0, 1) := by decide +kernel
theorem dX2_takes_100 : decode cX2_takes 100 = .ok (.iload_n 1, 1) := by decide +kernel
theorem dX2_takes_101 : decode cX2_takes 101 = .ok (.aload_n 0, 1) := by decide +kernel
theorem dX2_takes_102 : decode cX2_takes 102 = .ok (.getfield 21, 3) := by decide +kernel
theorem dX2_takes_105 : decode cX2_takes 105 = .ok (.iconst 5, 1) := by decide +kernel
theorem dX2_takes_106 : decode cX2_takes 106 = .ok (.invokevirtual 38, 3) := by decide +kernel
theorem dX2_takes_109 : decode cX2_takes 109 = .ok (.ifCond .ne 11, 3) := by decide +kernel
theorem dX2_takes_112 : decode cX2_takes 112 = .ok (.aload_n 0, 1) := by decide +kernel
theorem dX2_takes_113 : decode cX2_takes 113 = .ok (.iload_n 1, 1) := by decide +kernel
theorem dX2_takes_114 : decode cX2_takes 114 = .ok (.invokevirtual 42, 3) := by decide +kernel
theorem dX2_takes_117 : decode cX2_takes 117 = .ok (.ifCond .eq 7, 3) := by decide +kernel
theorem dX2_takes_120 : decode cX2_takes 120 = .ok (.iconst 1, 1) := by decide +kernel
theorem dX2_takes_121 : decode cX2_takes 121 = .ok (.goto 4, 3) := by decide +kernel
theorem dX2_takes_124 : decode cX2_takes 124 = .ok (.iconst 0, 1) := by decide +kernel
theorem dX2_takes_125 : decode cX2_takes 125 = .ok (.ireturn, 1) := by decide +kernel
theorem dX2_takes_126 : decode cX2_takes 126 = .ok (.aload_n 0, 1) := by decide +kernel
theorem dX2_takes_127 : decode cX2_takes 127 = .ok (.iload_n 1, 1) := by decide +kernel
theorem dX2_takes_128 : decode cX2_takes 128 = .ok (.invokevirtual 42, 3) := by decide +kernel
theorem dX2_takes_131 : decode cX2_takes 131 = .ok (.ireturn, 1) := by decide +kernel
theorem dX2_takes_132 : decode cX2_takes 132 = .ok (.aload_n 0, 1) := by decide +kernel
theorem dX2_takes_133 : decode cX2_takes 133 = .ok (.iload_n 1, 1) := by decide +kernel
theorem dX2_takes_134 : decode cX2_takes 134 = .ok (.invokevirtual 45, 3) := by decide +kernel
theorem dX2_takes_137 : decode cX2_takes 137 = .ok (.ireturn, 1) := by decide +kernel
theorem dX2_takes_138 : decode cX2_takes 138 = .ok (.aload_n 0, 1) := by decide +kernel
theorem dX2_takes_139 : decode cX2_takes 139 = .ok (.iload_n 1, 1) := by decide +kernel
theorem dX2_takes_140 : decode cX2_takes 140 = .ok (.invokevirtual 48, 3) := by decide +kernel
theorem dX2_takes_143 : decode cX2_takes 143 = .ok (.ireturn, 1) := by decide +kernel
theorem dX2_canEnd_0 : decode cX2_canEnd 0 = .ok (.aload_n 0, 1) := by decide +kernel
theorem dX2_canEnd_1 : decode cX2_canEnd 1 = .ok (.getfield 11, 3) := by decide +kernel
theorem dX2_canEnd_4 : decode cX2_canEnd 4 = .ok (.iconst 4, 1) := by decide +kernel
theorem dX2_canEnd_5 : decode cX2_canEnd 5 = .ok (.if_icmp .eq 20, 3) := by decide +kernel
theorem dX2_canEnd_8 : decode cX2_canEnd 8 = .ok (.aload_n 0, 1) := by decide +kernel
theorem dX2_canEnd_9 : decode cX2_canEnd 9 = .ok (.getfield 11, 3) := by decide +kernel
theorem dX2_canEnd_12 : decode cX2_canEnd 12 = .ok (.iconst 5, 1) := by decide +kernel
theorem dX2_canEnd_13 : decode cX2_canEnd 13 = .ok (.if_icmp .eq 12, 3) := by decide +kernel
theorem dX2_canEnd_16 : decode cX2_canEnd 16 = .ok (.aload_n 0, 1) := by decide +kernel
theorem dX2_canEnd_17 : decode cX2_canEnd 17 = .ok (.getfield 11, 3) := by decide +kernel
theorem dX2_canEnd_20 : decode cX2_canEnd 20 = .ok (.bipush 7, 2) := by decide +kernel
theorem dX2_canEnd_22 : decode cX2_canEnd 22 = .ok (.if_icmp .ne 7, 3) := by decide +kernel
theorem dX2_canEnd_25 : decode cX2_canEnd 25 = .ok (.iconst 1, 1) := by decide +kernel
theorem dX2_canEnd_26 : decode cX2_canEnd 26 = .ok (.goto 4, 3) := by decide +kernel
theorem dX2_canEnd_29 : decode cX2_canEnd 29 = .ok (.iconst 0, 1) := by decide +kernel
theorem dX2_canEnd_30 : decode cX2_canEnd 30 = .ok (.ireturn, 1) := by decide +kernel
theorem dX2_goesOn_0 : decode cX2_goesOn 0 = .ok (.iload_n 1, 1) := by decide +kernel
theorem dX2_goesOn_1 : decode cX2_goesOn 1 = .ok (.ifCond .eq 8, 3) := by decide +kernel
theorem dX2_goesOn_4 : decode cX2_goesOn 4 = .ok (.aload_n 0, 1) := by decide +kernel
theorem dX2_goesOn_5 : decode cX2_goesOn 5 = .ok (.iload_n 2, 1) := by decide +kernel
theorem dX2_goesOn_6 : decode cX2_goesOn 6 = .ok (.putfield 11, 3) := by decide +kernel
theorem dX2_goesOn_9 : decode cX2_goesOn 9 = .ok (.iload_n 1, 1) := by decide +kernel
theorem dX2_goesOn_10 : decode cX2_goesOn 10 = .ok (.ireturn, 1) := by decide +kernel
set_option maxRecDepth 20000 in
theorem ggX2_takesPupil_X2_isDigit : GoodIn wsX2_takesPupil wsX2_isDigit := goodIn_r _ [5, 6, 7, 8] (by decide +kernel) (by decide +kernel)
set_option maxRecDepth 20000 in
theorem gX2_takesPupil_X2_isDigit : GoodIn wsX2_takesPupil (va_wsS RX2 51 yX2_isDigit wsX2_isDigit) := goodIn_app (goodIn_of _ (by decide +kernel)) ggX2_takesPupil_X2_isDigit
set_option maxRecDepth 20000 in
theorem ggX2_takesPupil_X2_goesOn : GoodIn wsX2_takesPupil wsX2_goesOn := goodIn_r _ [12, 13, 14, 15, 16, 17, 18] (by decide +kernel) (by decide +kernel)
set_option maxRecDepth 20000 in
theorem gX2_takesPupil_X2_goesOn : GoodIn wsX2_takesPupil (wsV RX2 34 RX2 yX2_goesOn wsX2_goesOn) := goodIn_app (goodIn_of _ (by decide +kernel)) ggX2_takesPupil_X2_goesOn
theorem dX2_takesPupil_0 : decode cX2_takesPupil 0 = .ok (.iload_n 1, 1) := by decide +kernel
theorem dX2_takesPupil_1 : decode cX2_takesPupil 1 = .ok (.invokestatic 51, 3) := by decide +kernel
theorem dX2_takesPupil_4 : decode cX2_takesPupil 4 = .ok (.ifCond .eq 11, 3) := by decide +kernel
theorem dX2_takesPupil_7 : decode cX2_takesPupil 7 = .ok (.aload_n 0, 1) := by decide +kernel
theorem dX2_takesPupil_8 : decode cX2_takesPupil 8 = .ok (.iload_n 1, 1) := by decide +kernel
theorem dX2_takesPupil_9 : decode cX2_takesPupil 9 = .ok (.bipush 48, 2) := by decide +kernel
theorem dX2_takesPupil_11 : decode cX2_takesPupil 11 = .ok (.isub, 1) := by decide +kernel
theorem dX2_takesPupil_12 : decode cX2_takesPupil 12 = .ok (.putfield 15, 3) := by decide +kernel
theorem dX2_takesPupil_15 : decode cX2_takesPupil 15 = .ok (.aload_n 0, 1) := by decide +kernel
theorem dX2_takesPupil_16 : decode cX2_takesPupil 16 = .ok (.iload_n 1, 1) := by decide +kernel
theorem dX2_takesPupil_17 : decode cX2_takesPupil 17 = .ok (.invokestatic 51, 3) := by decide +kernel
theorem dX2_takesPupil_20 : decode cX2_takesPupil 20 = .ok (.iconst 1, 1) := by decide +kernel
theorem dX2_takesPupil_21 : decode cX2_takesPupil 21 = .ok (.invokevirtual 34, 3) := by decide +kernel
theorem dX2_takesPupil_24 : decode cX2_takesPupil 24 = .ok (.ireturn, 1) := by decide +kernel
set_option maxRecDepth 20000 in
theorem ggX2_takesExcuse_X4_isWithin : GoodIn wsX2_takesExcuse wsX4_isWithin := goodIn_r _ [4] (by decide +kernel) (by decide +kernel)
set_option maxRecDepth 20000 in
theorem gX2_takesExcuse_X4_isWithin_n54 : GoodIn wsX2_takesExcuse (wsX4_isWithin) := ggX2_takesExcuse_X4_isWithin
set_option maxRecDepth 20000 in
theorem ggX2_takesExcuse_X2_goesOn : GoodIn wsX2_takesExcuse wsX2_goesOn := goodIn_r _ [9, 10, 11, 12, 13, 14, 15] (by decide +kernel) (by decide +kernel)
set_option maxRecDepth 20000 in
theorem gX2_takesExcuse_X2_goesOn : GoodIn wsX2_takesExcuse (wsV RX2 34 RX2 yX2_goesOn wsX2_goesOn) := goodIn_app (goodIn_of _ (by decide +kernel)) ggX2_takesExcuse_X2_goesOn
theorem dX2_takesExcuse_0 : decode cX2_takesExcuse 0 = .ok (.iload_n 1, 1) := by decide +kernel
theorem dX2_takesExcuse_1 : decode cX2_takesExcuse 1 = .ok (.bipush 97, 2) := by decide +kernel
theorem dX2_takesExcuse_3 : decode cX2_takesExcuse 3 = .ok (.bipush 108, 2) := by decide +kernel
theorem dX2_takesExcuse_5 : decode cX2_takesExcuse 5 = .ok (.invokestatic 54, 3) := by decide +kernel
theorem dX2_takesExcuse_8 : decode cX2_takesExcuse 8 = .ok (.istore_n 2, 1) := by decide +kernel
theorem dX2_takesExcuse_9 : decode cX2_takesExcuse 9 = .ok (.iload_n 2, 1) := by decide +kernel
theorem dX2_takesExcuse_10 : decode cX2_takesExcuse 10 = .ok (.ifCond .eq 11, 3) := by decide +kernel
theorem dX2_takesExcuse_13 : decode cX2_takesExcuse 13 = .ok (.aload_n 0, 1) := by decide +kernel
theorem dX2_takesExcuse_14 : decode cX2_takesExcuse 14 = .ok (.iload_n 1, 1) := by decide +kernel
theorem dX2_takesExcuse_15 : decode cX2_takesExcuse 15 = .ok (.bipush 97, 2) := by decide +kernel
theorem dX2_takesExcuse_17 : decode cX2_takesExcuse 17 = .ok (.isub, 1) := by decide +kernel
theorem dX2_takesExcuse_18 : decode cX2_takesExcuse 18 = .ok (.putfield 18, 3) := by decide +kernel
theorem dX2_takesExcuse_21 : decode cX2_takesExcuse 21 = .ok (.aload_n 0, 1) := by decide +kernel
theorem dX2_takesExcuse_22 : decode cX2_takesExcuse 22 = .ok (.iload_n 2, 1) := by decide +kernel
theorem dX2_takesExcuse_23 : decode cX2_takesExcuse 23 = .ok (.iconst 2, 1) := by decide +kernel
theorem dX2_takesExcuse_24 : decode cX2_takesExcuse 24 = .ok (.invokevirtual 34, 3) := by decide +kernel
theorem dX2_takesExcuse_27 : decode cX2_takesExcuse 27 = .ok (.ireturn, 1) := by decide +kernel
set_option maxRecDepth 20000 in
theorem ggX2_takesMinutes_X2_isDigit : GoodIn wsX2_takesMinutes wsX2_isDigit := goodIn_r _ [5, 6, 7, 8] (by decide +kernel) (by decide +kernel)
set_option maxRecDepth 20000 in
theorem gX2_takesMinutes_X2_isDigit : GoodIn wsX2_takesMinutes (va_wsS RX2 51 yX2_isDigit wsX2_isDigit) := goodIn_app (goodIn_of _ (by decide +kernel)) ggX2_takesMinutes_X2_isDigit
set_option maxRecDepth 20000 in
theorem ggX2_takesMinutes_X2_goesOn : GoodIn wsX2_takesMinutes wsX2_goesOn := goodIn_r _ [12, 13, 14, 15, 16, 17, 18] (by decide +kernel) (by decide +kernel)
set_option maxRecDepth 20000 in
theorem gX2_takesMinutes_X2_goesOn : GoodIn wsX2_takesMinutes (wsV RX2 34 RX2 yX2_goesOn wsX2_goesOn) := goodIn_app (goodIn_of _ (by decide +kernel)) ggX2_takesMinutes_X2_goesOn
theorem dX2_takesMinutes_0 : decode cX2_takesMinutes 0 = .ok (.iload_n 1, 1) := by decide +kernel
theorem dX2_takesMinutes_1 : decode cX2_takesMinutes 1 = .ok (.invokestatic 51, 3) := by decide +kernel
theorem dX2_takesMinutes_4 : decode cX2_takesMinutes 4 = .ok (.ifCond .eq 16, 3) := by decide +kernel
theorem dX2_takesMinutes_7 : decode cX2_takesMinutes 7 = .ok (.aload_n 0, 1) := by decide +kernel
theorem dX2_takesMinutes_8 : decode cX2_takesMinutes 8 = .ok (.bipush 10, 2) := by decide +kernel
theorem dX2_takesMinutes_10 : decode cX2_takesMinutes 10 = .ok (.iload_n 2, 1) := by decide +kernel
theorem dX2_takesMinutes_11 : decode cX2_takesMinutes 11 = .ok (.imul, 1) := by decide +kernel
theorem dX2_takesMinutes_12 : decode cX2_takesMinutes 12 = .ok (.iload_n 1, 1) := by decide +kernel
theorem dX2_takesMinutes_13 : decode cX2_takesMinutes 13 = .ok (.iadd, 1) := by decide +kernel
theorem dX2_takesMinutes_14 : decode cX2_takesMinutes 14 = .ok (.bipush 48, 2) := by decide +kernel
theorem dX2_takesMinutes_16 : decode cX2_takesMinutes 16 = .ok (.isub, 1) := by decide +kernel
theorem dX2_takesMinutes_17 : decode cX2_takesMinutes 17 = .ok (.putfield 21, 3) := by decide +kernel
theorem dX2_takesMinutes_20 : decode cX2_takesMinutes 20 = .ok (.aload_n 0, 1) := by decide +kernel
theorem dX2_takesMinutes_21 : decode cX2_takesMinutes 21 = .ok (.iload_n 1, 1) := by decide +kernel
theorem dX2_takesMinutes_22 : decode cX2_takesMinutes 22 = .ok (.invokestatic 51, 3) := by decide +kernel
theorem dX2_takesMinutes_25 : decode cX2_takesMinutes 25 = .ok (.iload_n 3, 1) := by decide +kernel
theorem dX2_takesMinutes_26 : decode cX2_takesMinutes 26 = .ok (.invokevirtual 34, 3) := by decide +kernel
theorem dX2_takesMinutes_29 : decode cX2_takesMinutes 29 = .ok (.ireturn, 1) := by decide +kernel
set_option maxRecDepth 20000 in
theorem ggX2_takesAfterMinutes_X2_goesOn : GoodIn wsX2_takesAfterMinutes wsX2_goesOn := goodIn_r _ [5, 6, 12, 13, 14, 15, 16] (by decide +kernel) (by decide +kernel)
set_option maxRecDepth 20000 in
theorem gX2_takesAfterMinutes_X2_goesOn : GoodIn wsX2_takesAfterMinutes (wsV RX2 34 RX2 yX2_goesOn wsX2_goesOn) := goodIn_app (goodIn_of _ (by decide +kernel)) ggX2_takesAfterMinutes_X2_goesOn
set_option maxRecDepth 20000 in
theorem ggX2_takesAfterMinutes_X2_takesComma : GoodIn wsX2_takesAfterMinutes wsX2_takesComma := goodIn_r _ [10, 11, 1, 2, 3, 4, 5, 6, 12, 13, 14, 15, 16] (by decide +kernel) (by decide +kernel)
set_option maxRecDepth 20000 in
theorem gX2_takesAfterMinutes_X2_takesComma : GoodIn wsX2_takesAfterMinutes (wsV RX2 48 RX2 yX2_takesComma wsX2_takesComma) := goodIn_app (goodIn_of _ (by decide +kernel)) ggX2_takesAfterMinutes_X2_takesComma
theorem dX2_takesAfterMinutes_0 : decode cX2_takesAfterMinutes 0 = .ok (.aload_n 0, 1) := by decide +kernel
theorem dX2_takesAfterMinutes_1 : decode cX2_takesAfterMinutes 1 = .ok (.iload_n 1, 1) := by decide +kernel
theorem dX2_takesAfterMinutes_2 : decode cX2_takesAfterMinutes 2 = .ok (.bipush 119, 2) := by decide +kernel
theorem dX2_takesAfterMinutes_4 : decode cX2_takesAfterMinutes 4 = .ok (.if_icmp .ne 7, 3) := by decide +kernel
theorem dX2_takesAfterMinutes_7 : decode cX2_takesAfterMinutes 7 = .ok (.iconst 1, 1) := by decide +kernel
theorem dX2_takesAfterMinutes_8 : decode cX2_takesAfterMinutes 8 = .ok (.goto 4, 3) := by decide +kernel
theorem dX2_takesAfterMinutes_11 : decode cX2_takesAfterMinutes 11 = .ok (.iconst 0, 1) := by decide +kernel
theorem dX2_takesAfterMinutes_12 : decode cX2_takesAfterMinutes 12 = .ok (.bipush 6, 2) := by decide +kernel
theorem dX2_takesAfterMinutes_14 : decode cX2_takesAfterMinutes 14 = .ok (.invokevirtual 34, 3) := by decide +kernel
theorem dX2_takesAfterMinutes_17 : decode cX2_takesAfterMinutes 17 = .ok (.ifCond .ne 11, 3) := by decide +kernel
theorem dX2_takesAfterMinutes_20 : decode cX2_takesAfterMinutes 20 = .ok (.aload_n 0, 1) := by decide +kernel
theorem dX2_takesAfterMinutes_21 : decode cX2_takesAfterMinutes 21 = .ok (.iload_n 1, 1) := by decide +kernel
theorem dX2_takesAfterMinutes_22 : decode cX2_takesAfterMinutes 22 = .ok (.invokevirtual 48, 3) := by decide +kernel
theorem dX2_takesAfterMinutes_25 : decode cX2_takesAfterMinutes 25 = .ok (.ifCond .eq 7, 3) := by decide +kernel
theorem dX2_takesAfterMinutes_28 : decode cX2_takesAfterMinutes 28 = .ok (.iconst 1, 1) := by decide +kernel
theorem dX2_takesAfterMinutes_29 : decode cX2_takesAfterMinutes 29 = .ok (.goto 4, 3) := by decide +kernel
theorem dX2_takesAfterMinutes_32 : decode cX2_takesAfterMinutes 32 = .ok (.iconst 0, 1) := by decide +kernel
theorem dX2_takesAfterMinutes_33 : decode cX2_takesAfterMinutes 33 = .ok (.ireturn, 1) := by decide +kernel
set_option maxRecDepth 20000 in
theorem ggX2_takesWitness_X2_isDigit : GoodIn wsX2_takesWitness wsX2_isDigit := goodIn_r _ [6, 7, 8, 9] (by decide +kernel) (by decide +kernel)
set_option maxRecDepth 20000 in
theorem gX2_takesWitness_X2_isDigit : GoodIn wsX2_takesWitness (va_wsS RX2 51 yX2_isDigit wsX2_isDigit) := goodIn_app (goodIn_of _ (by decide +kernel)) ggX2_takesWitness_X2_isDigit
set_option maxRecDepth 20000 in
theorem ggX2_takesWitness_X2_goesOn : GoodIn wsX2_takesWitness wsX2_goesOn := goodIn_r _ [13, 14, 15, 16, 17, 18, 19] (by decide +kernel) (by decide +kernel)
set_option maxRecDepth 20000 in
theorem gX2_takesWitness_X2_goesOn : GoodIn wsX2_takesWitness (wsV RX2 34 RX2 yX2_goesOn wsX2_goesOn) := goodIn_app (goodIn_of _ (by decide +kernel)) ggX2_takesWitness_X2_goesOn
theorem dX2_takesWitness_0 : decode cX2_takesWitness 0 = .ok (.iload_n 1, 1) := by decide +kernel
theorem dX2_takesWitness_1 : decode cX2_takesWitness 1 = .ok (.invokestatic 51, 3) := by decide +kernel
theorem dX2_takesWitness_4 : decode cX2_takesWitness 4 = .ok (.ifCond .eq 18, 3) := by decide +kernel
theorem dX2_takesWitness_7 : decode cX2_takesWitness 7 = .ok (.iload_n 1, 1) := by decide +kernel
theorem dX2_takesWitness_8 : decode cX2_takesWitness 8 = .ok (.bipush 48, 2) := by decide +kernel
theorem dX2_takesWitness_10 : decode cX2_takesWitness 10 = .ok (.isub, 1) := by decide +kernel
theorem dX2_takesWitness_11 : decode cX2_takesWitness 11 = .ok (.aload_n 0, 1) := by decide +kernel
theorem dX2_takesWitness_12 : decode cX2_takesWitness 12 = .ok (.getfield 15, 3) := by decide +kernel
theorem dX2_takesWitness_15 : decode cX2_takesWitness 15 = .ok (.if_icmp .eq 7, 3) := by decide +kernel
theorem dX2_takesWitness_18 : decode cX2_takesWitness 18 = .ok (.iconst 1, 1) := by decide +kernel
theorem dX2_takesWitness_19 : decode cX2_takesWitness 19 = .ok (.goto 4, 3) := by decide +kernel
theorem dX2_takesWitness_22 : decode cX2_takesWitness 22 = .ok (.iconst 0, 1) := by decide +kernel
theorem dX2_takesWitness_23 : decode cX2_takesWitness 23 = .ok (.istore_n 2, 1) := by decide +kernel
theorem dX2_takesWitness_24 : decode cX2_takesWitness 24 = .ok (.iload_n 2, 1) := by decide +kernel
theorem dX2_takesWitness_25 : decode cX2_takesWitness 25 = .ok (.ifCond .eq 11, 3) := by decide +kernel
theorem dX2_takesWitness_28 : decode cX2_takesWitness 28 = .ok (.aload_n 0, 1) := by decide +kernel
theorem dX2_takesWitness_29 : decode cX2_takesWitness 29 = .ok (.iload_n 1, 1) := by decide +kernel
theorem dX2_takesWitness_30 : decode cX2_takesWitness 30 = .ok (.bipush 48, 2) := by decide +kernel
theorem dX2_takesWitness_32 : decode cX2_takesWitness 32 = .ok (.isub, 1) := by decide +kernel
theorem dX2_takesWitness_33 : decode cX2_takesWitness 33 = .ok (.putfield 24, 3) := by decide +kernel
theorem dX2_takesWitness_36 : decode cX2_takesWitness 36 = .ok (.aload_n 0, 1) := by decide +kernel
theorem dX2_takesWitness_37 : decode cX2_takesWitness 37 = .ok (.iload_n 2, 1) := by decide +kernel
theorem dX2_takesWitness_38 : decode cX2_takesWitness 38 = .ok (.bipush 7, 2) := by decide +kernel
theorem dX2_takesWitness_40 : decode cX2_takesWitness 40 = .ok (.invokevirtual 34, 3) := by decide +kernel
theorem dX2_takesWitness_43 : decode cX2_takesWitness 43 = .ok (.ireturn, 1) := by decide +kernel
set_option maxRecDepth 20000 in
theorem ggX2_takesComma_X2_goesOn : GoodIn wsX2_takesComma wsX2_goesOn := goodIn_r _ [6, 7, 8, 9, 10, 11, 12] (by decide +kernel) (by decide +kernel)
set_option maxRecDepth 20000 in
theorem gX2_takesComma_X2_goesOn : GoodIn wsX2_takesComma (wsV RX2 34 RX2 yX2_goesOn wsX2_goesOn) := goodIn_app (goodIn_of _ (by decide +kernel)) ggX2_takesComma_X2_goesOn
theorem dX2_takesComma_0 : decode cX2_takesComma 0 = .ok (.iload_n 1, 1) := by decide +kernel
theorem dX2_takesComma_1 : decode cX2_takesComma 1 = .ok (.bipush 44, 2) := by decide +kernel
theorem dX2_takesComma_3 : decode cX2_takesComma 3 = .ok (.if_icmp .ne 9, 3) := by decide +kernel
theorem dX2_takesComma_6 : decode cX2_takesComma 6 = .ok (.aload_n 0, 1) := by decide +kernel
theorem dX2_takesComma_7 : decode cX2_takesComma 7 = .ok (.bipush (-6), 2) := by decide +kernel
theorem dX2_takesComma_9 : decode cX2_takesComma 9 = .ok (.putfield 24, 3) := by decide +kernel
theorem dX2_takesComma_12 : decode cX2_takesComma 12 = .ok (.aload_n 0, 1) := by decide +kernel
theorem dX2_takesComma_13 : decode cX2_takesComma 13 = .ok (.iload_n 1, 1) := by decide +kernel
theorem dX2_takesComma_14 : decode cX2_takesComma 14 = .ok (.bipush 44, 2) := by decide +kernel
theorem dX2_takesComma_16 : decode cX2_takesComma 16 = .ok (.if_icmp .ne 7, 3) := by decide +kernel
theorem dX2_takesComma_19 : decode cX2_takesComma 19 = .ok (.iconst 1, 1) := by decide +kernel
theorem dX2_takesComma_20 : decode cX2_takesComma 20 = .ok (.goto 4, 3) := by decide +kernel
theorem dX2_takesComma_23 : decode cX2_takesComma 23 = .ok (.iconst 0, 1) := by decide +kernel
theorem dX2_takesComma_24 : decode cX2_takesComma 24 = .ok (.iconst 0, 1) := by decide +kernel
theorem dX2_takesComma_25 : decode cX2_takesComma 25 = .ok (.invokevirtual 34, 3) := by decide +kernel
theorem dX2_takesComma_28 : decode cX2_takesComma 28 = .ok (.ireturn, 1) := by decide +kernel
set_option maxRecDepth 20000 in
theorem ggX2_isDigit_X4_isWithin : GoodIn wsX2_isDigit wsX4_isWithin := goodIn_r _ [3] (by decide +kernel) (by decide +kernel)
set_option maxRecDepth 20000 in
theorem gX2_isDigit_X4_isWithin_n54 : GoodIn wsX2_isDigit (wsX4_isWithin) := ggX2_isDigit_X4_isWithin
theorem dX2_isDigit_0 : decode cX2_isDigit 0 = .ok (.iload_n 0, 1) := by decide +kernel
theorem dX2_isDigit_1 : decode cX2_isDigit 1 = .ok (.bipush 48, 2) := by decide +kernel
theorem dX2_isDigit_3 : decode cX2_isDigit 3 = .ok (.bipush 57, 2) := by decide +kernel
theorem dX2_isDigit_5 : decode cX2_isDigit 5 = .ok (.invokestatic 54, 3) := by decide +kernel
theorem dX2_isDigit_8 : decode cX2_isDigit 8 = .ok (.ireturn, 1) := by decide +kernel
theorem inlX3 : ∀ w ∈ wsX30, w ∈ wsL_law := fun _ h => List.mem_append_left _ (List.mem_append_left _ (List.mem_append_left _ (List.mem_append_left _ (List.mem_append_right _ h))))
set_option maxRecDepth 20000 in
theorem ggX3_init_X4_copy : GoodIn wsX3_init wsX4_copy := goodIn_r _ [22, 23, 24, 25, 26, 27, 28, 29, 30] (by decide +kernel) (by decide +kernel)
set_option maxRecDepth 20000 in
theorem gX3_init_X4_copy_n61 : GoodIn wsX3_init (wsX4_copy) := ggX3_init_X4_copy
theorem dX3_init_0 : decode cX3_init 0 = .ok (.aload_n 0, 1) := by decide +kernel
theorem dX3_init_1 : decode cX3_init 1 = .ok (.invokespecial 3, 3) := by decide +kernel
theorem dX3_init_4 : decode cX3_init 4 = .ok (.aload_n 0, 1) := by decide +kernel
theorem dX3_init_5 : decode cX3_init 5 = .ok (.getstatic 9, 3) := by decide +kernel
theorem dX3_init_8 : decode cX3_init 8 = .ok (.arraylength, 1) := by decide +kernel
theorem dX3_init_9 : decode cX3_init 9 = .ok (.newarray .int, 2) := by decide +kernel
theorem dX3_init_11 : decode cX3_init 11 = .ok (.putfield 13, 3) := by decide +kernel
theorem dX3_init_14 : decode cX3_init 14 = .ok (.aload_n 0, 1) := by decide +kernel
theorem dX3_init_15 : decode cX3_init 15 = .ok (.iconst 0, 1) := by decide +kernel
theorem dX3_init_16 : decode cX3_init 16 = .ok (.putfield 18, 3) := by decide +kernel
theorem dX3_init_19 : decode cX3_init 19 = .ok (.aload_n 0, 1) := by decide +kernel
theorem dX3_init_20 : decode cX3_init 20 = .ok (.bipush 12, 2) := by decide +kernel
theorem dX3_init_22 : decode cX3_init 22 = .ok (.newarray .int, 2) := by decide +kernel
theorem dX3_init_24 : decode cX3_init 24 = .ok (.putfield 22, 3) := by decide +kernel
theorem dX3_init_27 : decode cX3_init 27 = .ok (.aload_n 0, 1) := by decide +kernel
theorem dX3_init_28 : decode cX3_init 28 = .ok (.bipush 12, 2) := by decide +kernel
theorem dX3_init_30 : decode cX3_init 30 = .ok (.newarray .int, 2) := by decide +kernel
theorem dX3_init_32 : decode cX3_init 32 = .ok (.putfield 25, 3) := by decide +kernel
theorem dX3_init_35 : decode cX3_init 35 = .ok (.aload_n 0, 1) := by decide +kernel
theorem dX3_init_36 : decode cX3_init 36 = .ok (.bipush 12, 2) := by decide +kernel
theorem dX3_init_38 : decode cX3_init 38 = .ok (.newarray .int, 2) := by decide +kernel
theorem dX3_init_40 : decode cX3_init 40 = .ok (.putfield 28, 3) := by decide +kernel
theorem dX3_init_43 : decode cX3_init 43 = .ok (.aload_n 0, 1) := by decide +kernel
theorem dX3_init_44 : decode cX3_init 44 = .ok (.bipush 120, 2) := by decide +kernel
theorem dX3_init_46 : decode cX3_init 46 = .ok (.newarray .int, 2) := by decide +kernel
theorem dX3_init_48 : decode cX3_init 48 = .ok (.putfield 31, 3) := by decide +kernel
theorem dX3_init_51 : decode cX3_init 51 = .ok (.aload_n 0, 1) := by decide +kernel
theorem dX3_init_52 : decode cX3_init 52 = .ok (.bipush 10, 2) := by decide +kernel
theorem dX3_init_54 : decode cX3_init 54 = .ok (.newarray .int, 2) := by decide +kernel
theorem dX3_init_56 : decode cX3_init 56 = .ok (.putfield 34, 3) := by decide +kernel
theorem dX3_init_59 : decode cX3_init 59 = .ok (.aload_n 0, 1) := by decide +kernel
theorem dX3_init_60 : decode cX3_init 60 = .ok (.bipush 10, 2) := by decide +kernel
theorem dX3_init_62 : decode cX3_init 62 = .ok (.newarray .int, 2) := by decide +kernel
theorem dX3_init_64 : decode cX3_init 64 = .ok (.putfield 37, 3) := by decide +kernel
theorem dX3_init_67 : decode cX3_init 67 = .ok (.aload_n 0, 1) := by decide +kernel
theorem dX3_init_68 : decode cX3_init 68 = .ok (.bipush 10, 2) := by decide +kernel
theorem dX3_init_70 : decode cX3_init 70 = .ok (.newarray .int, 2) := by decide +kernel
theorem dX3_init_72 : decode cX3_init 72 = .ok (.putfield 40, 3) := by decide +kernel
theorem dX3_init_75 : decode cX3_init 75 = .ok (.aload_n 0, 1) := by decide +kernel
theorem dX3_init_76 : decode cX3_init 76 = .ok (.bipush 10, 2) := by decide +kernel
theorem dX3_init_78 : decode cX3_init 78 = .ok (.newarray .int, 2) := by decide +kernel
theorem dX3_init_80 : decode cX3_init 80 = .ok (.putfield 43, 3) := by decide +kernel
theorem dX3_init_83 : decode cX3_init 83 = .ok (.aload_n 0, 1) := by decide +kernel
theorem dX3_init_84 : decode cX3_init 84 = .ok (.bipush 10, 2) := by decide +kernel
theorem dX3_init_86 : decode cX3_init 86 = .ok (.newarray .int, 2) := by decide +kernel
theorem dX3_init_88 : decode cX3_init 88 = .ok (.putfield 46, 3) := by decide +kernel
theorem dX3_init_91 : decode cX3_init 91 = .ok (.aload_n 0, 1) := by decide +kernel
theorem dX3_init_92 : decode cX3_init 92 = .ok (.bipush 10, 2) := by decide +kernel
theorem dX3_init_94 : decode cX3_init 94 = .ok (.newarray .int, 2) := by decide +kernel
theorem dX3_init_96 : decode cX3_init 96 = .ok (.putfield 49, 3) := by decide +kernel
theorem dX3_init_99 : decode cX3_init 99 = .ok (.aload_n 0, 1) := by decide +kernel
theorem dX3_init_100 : decode cX3_init 100 = .ok (.iconst 5, 1) := by decide +kernel
theorem dX3_init_101 : decode cX3_init 101 = .ok (.newarray .int, 2) := by decide +kernel
theorem dX3_init_103 : decode cX3_init 103 = .ok (.putfield 52, 3) := by decide +kernel
theorem dX3_init_106 : decode cX3_init 106 = .ok (.aload_n 0, 1) := by decide +kernel
theorem dX3_init_107 : decode cX3_init 107 = .ok (.iconst 5, 1) := by decide +kernel
theorem dX3_init_108 : decode cX3_init 108 = .ok (.newarray .int, 2) := by decide +kernel
theorem dX3_init_110 : decode cX3_init 110 = .ok (.putfield 55, 3) := by decide +kernel
theorem dX3_init_113 : decode cX3_init 113 = .ok (.aload_n 0, 1) := by decide +kernel
theorem dX3_init_114 : decode cX3_init 114 = .ok (.iconst 0, 1) := by decide +kernel
theorem dX3_init_115 : decode cX3_init 115 = .ok (.putfield 58, 3) := by decide +kernel
theorem dX3_init_118 : decode cX3_init 118 = .ok (.getstatic 9, 3) := by decide +kernel
theorem dX3_init_121 : decode cX3_init 121 = .ok (.aload_n 0, 1) := by decide +kernel
theorem dX3_init_122 : decode cX3_init 122 = .ok (.getfield 13, 3) := by decide +kernel
theorem dX3_init_125 : decode cX3_init 125 = .ok (.invokestatic 61, 3) := by decide +kernel
theorem dX3_init_128 : decode cX3_init 128 = .ok (.iconst 0, 1) := by decide +kernel
theorem dX3_init_129 : decode cX3_init 129 = .ok (.istore_n 1, 1) := by decide +kernel
theorem dX3_init_130 : decode cX3_init 130 = .ok (.iload_n 1, 1) := by decide +kernel
theorem dX3_init_131 : decode cX3_init 131 = .ok (.bipush 10, 2) := by decide +kernel
theorem dX3_init_133 : decode cX3_init 133 = .ok (.if_icmp .ge 24, 3) := by decide +kernel
theorem dX3_init_136 : decode cX3_init 136 = .ok (.aload_n 0, 1) := by decide +kernel
theorem dX3_init_137 : decode cX3_init 137 = .ok (.getfield 34, 3) := by decide +kernel
theorem dX3_init_140 : decode cX3_init 140 = .ok (.iload_n 1, 1) := by decide +kernel
theorem dX3_init_141 : decode cX3_init 141 = .ok (.iconst 5, 1) := by decide +kernel
theorem dX3_init_142 : decode cX3_init 142 = .ok (.iastore, 1) := by decide +kernel
theorem dX3_init_143 : decode cX3_init 143 = .ok (.aload_n 0, 1) := by decide +kernel
theorem dX3_init_144 : decode cX3_init 144 = .ok (.getfield 49, 3) := by decide +kernel
theorem dX3_init_147 : decode cX3_init 147 = .ok (.iload_n 1, 1) := by decide +kernel
theorem dX3_init_148 : decode cX3_init 148 = .ok (.bipush (-6), 2) := by decide +kernel
theorem dX3_init_150 : decode cX3_init 150 = .ok (.iastore, 1) := by decide +kernel
theorem dX3_init_151 : decode cX3_init 151 = .ok (.iinc 1 1, 3) := by decide +kernel
theorem dX3_init_154 : decode cX3_init 154 = .ok (.goto (-24), 3) := by decide +kernel
theorem dX3_init_157 : decode cX3_init 157 = .ok (.return_, 1) := by decide +kernel
set_option maxRecDepth 20000 in
theorem ggX3_become_X4_copy : GoodIn wsX3_become wsX4_copy := goodIn_r _ [18, 19, 20, 21, 22, 23, 24, 25, 26] (by decide +kernel) (by decide +kernel)
set_option maxRecDepth 20000 in
theorem gX3_become_X4_copy_n61 : GoodIn wsX3_become (wsX4_copy) := ggX3_become_X4_copy
theorem dX3_become_0 : decode cX3_become 0 = .ok (.aload_n 1, 1) := by decide +kernel
theorem dX3_become_1 : decode cX3_become 1 = .ok (.getfield 13, 3) := by decide +kernel
theorem dX3_become_4 : decode cX3_become 4 = .ok (.aload_n 0, 1) := by decide +kernel
theorem dX3_become_5 : decode cX3_become 5 = .ok (.getfield 13, 3) := by decide +kernel
theorem dX3_become_8 : decode cX3_become 8 = .ok (.invokestatic 61, 3) := by decide +kernel
theorem dX3_become_11 : decode cX3_become 11 = .ok (.aload_n 0, 1) := by decide +kernel
theorem dX3_become_12 : decode cX3_become 12 = .ok (.aload_n 1, 1) := by decide +kernel
theorem dX3_become_13 : decode cX3_become 13 = .ok (.getfield 18, 3) := by decide +kernel
theorem dX3_become_16 : decode cX3_become 16 = .ok (.putfield 18, 3) := by decide +kernel
theorem dX3_become_19 : decode cX3_become 19 = .ok (.aload_n 1, 1) := by decide +kernel
theorem dX3_become_20 : decode cX3_become 20 = .ok (.getfield 22, 3) := by decide +kernel
theorem dX3_become_23 : decode cX3_become 23 = .ok (.aload_n 0, 1) := by decide +kernel
theorem dX3_become_24 : decode cX3_become 24 = .ok (.getfield 22, 3) := by decide +kernel
theorem dX3_become_27 : decode cX3_become 27 = .ok (.invokestatic 61, 3) := by decide +kernel
theorem dX3_become_30 : decode cX3_become 30 = .ok (.aload_n 1, 1) := by decide +kernel
theorem dX3_become_31 : decode cX3_become 31 = .ok (.getfield 25, 3) := by decide +kernel
theorem dX3_become_34 : decode cX3_become 34 = .ok (.aload_n 0, 1) := by decide +kernel
theorem dX3_become_35 : decode cX3_become 35 = .ok (.getfield 25, 3) := by decide +kernel
theorem dX3_become_38 : decode cX3_become 38 = .ok (.invokestatic 61, 3) := by decide +kernel
theorem dX3_become_41 : decode cX3_become 41 = .ok (.aload_n 1, 1) := by decide +kernel
theorem dX3_become_42 : decode cX3_become 42 = .ok (.getfield 28, 3) := by decide +kernel
theorem dX3_become_45 : decode cX3_become 45 = .ok (.aload_n 0, 1) := by decide +kernel
theorem dX3_become_46 : decode cX3_become 46 = .ok (.getfield 28, 3) := by decide +kernel
theorem dX3_become_49 : decode cX3_become 49 = .ok (.invokestatic 61, 3) := by decide +kernel
theorem dX3_become_52 : decode cX3_become 52 = .ok (.aload_n 1, 1) := by decide +kernel
theorem dX3_become_53 : decode cX3_become 53 = .ok (.getfield 31, 3) := by decide +kernel
theorem dX3_become_56 : decode cX3_become 56 = .ok (.aload_n 0, 1) := by decide +kernel
theorem dX3_become_57 : decode cX3_become 57 = .ok (.getfield 31, 3) := by decide +kernel
theorem dX3_become_60 : decode cX3_become 60 = .ok (.invokestatic 61, 3) := by decide +kernel
theorem dX3_become_63 : decode cX3_become 63 = .ok (.aload_n 1, 1) := by decide +kernel
theorem dX3_become_64 : decode cX3_become 64 = .ok (.getfield 34, 3) := by decide +kernel
theorem dX3_become_67 : decode cX3_become 67 = .ok (.aload_n 0, 1) := by decide +kernel
theorem dX3_become_68 : decode cX3_become 68 = .ok (.getfield 34, 3) := by decide +kernel
theorem dX3_become_71 : decode cX3_become 71 = .ok (.invokestatic 61, 3) := by decide +kernel
theorem dX3_become_74 : decode cX3_become 74 = .ok (.aload_n 1, 1) := by decide +kernel
theorem dX3_become_75 : decode cX3_become 75 = .ok (.getfield 37, 3) := by decide +kernel
theorem dX3_become_78 : decode cX3_become 78 = .ok (.aload_n 0, 1) := by decide +kernel
theorem dX3_become_79 : decode cX3_become 79 = .ok (.getfield 37, 3) := by decide +kernel
theorem dX3_become_82 : decode cX3_become 82 = .ok (.invokestatic 61, 3) := by decide +kernel
theorem dX3_become_85 : decode cX3_become 85 = .ok (.aload_n 1, 1) := by decide +kernel
theorem dX3_become_86 : decode cX3_become 86 = .ok (.getfield 40, 3) := by decide +kernel
theorem dX3_become_89 : decode cX3_become 89 = .ok (.aload_n 0, 1) := by decide +kernel
theorem dX3_become_90 : decode cX3_become 90 = .ok (.getfield 40, 3) := by decide +kernel
theorem dX3_become_93 : decode cX3_become 93 = .ok (.invokestatic 61, 3) := by decide +kernel
theorem dX3_become_96 : decode cX3_become 96 = .ok (.aload_n 1, 1) := by decide +kernel
theorem dX3_become_97 : decode cX3_become 97 = .ok (.getfield 43, 3) := by decide +kernel
theorem dX3_become_100 : decode cX3_become 100 = .ok (.aload_n 0, 1) := by decide +kernel
theorem dX3_become_101 : decode cX3_become 101 = .ok (.getfield 43, 3) := by decide +kernel
theorem dX3_become_104 : decode cX3_become 104 = .ok (.invokestatic 61, 3) := by decide +kernel
theorem dX3_become_107 : decode cX3_become 107 = .ok (.aload_n 1, 1) := by decide +kernel
theorem dX3_become_108 : decode cX3_become 108 = .ok (.getfield 46, 3) := by decide +kernel
theorem dX3_become_111 : decode cX3_become 111 = .ok (.aload_n 0, 1) := by decide +kernel
theorem dX3_become_112 : decode cX3_become 112 = .ok (.getfield 46, 3) := by decide +kernel
theorem dX3_become_115 : decode cX3_become 115 = .ok (.invokestatic 61, 3) := by decide +kernel
theorem dX3_become_118 : decode cX3_become 118 = .ok (.aload_n 1, 1) := by decide +kernel
theorem dX3_become_119 : decode cX3_become 119 = .ok (.getfield 49, 3) := by decide +kernel
theorem dX3_become_122 : decode cX3_become 122 = .ok (.aload_n 0, 1) := by decide +kernel
theorem dX3_become_123 : decode cX3_become 123 = .ok (.getfield 49, 3) := by decide +kernel
theorem dX3_become_126 : decode cX3_become 126 = .ok (.invokestatic 61, 3) := by decide +kernel
theorem dX3_become_129 : decode cX3_become 129 = .ok (.aload_n 1, 1) := by decide +kernel
theorem dX3_become_130 : decode cX3_become 130 = .ok (.getfield 52, 3) := by decide +kernel
theorem dX3_become_133 : decode cX3_become 133 = .ok (.aload_n 0, 1) := by decide +kernel
theorem dX3_become_134 : decode cX3_become 134 = .ok (.getfield 52, 3) := by decide +kernel
theorem dX3_become_137 : decode cX3_become 137 = .ok (.invokestatic 61, 3) := by decide +kernel
theorem dX3_become_140 : decode cX3_become 140 = .ok (.aload_n 1, 1) := by decide +kernel
theorem dX3_become_141 : decode cX3_become 141 = .ok (.getfield 55, 3) := by decide +kernel
theorem dX3_become_144 : decode cX3_become 144 = .ok (.aload_n 0, 1) := by decide +kernel
theorem dX3_become_145 : decode cX3_become 145 = .ok (.getfield 55, 3) := by decide +kernel
theorem dX3_become_148 : decode cX3_become 148 = .ok (.invokestatic 61, 3) := by decide +kernel
theorem dX3_become_151 : decode cX3_become 151 = .ok (.aload_n 0, 1) := by decide +kernel
theorem dX3_become_152 : decode cX3_become 152 = .ok (.aload_n 1, 1) := by decide +kernel
theorem dX3_become_153 : decode cX3_become 153 = .ok (.getfield 58, 3) := by decide +kernel
theorem dX3_become_156 : decode cX3_become 156 = .ok (.putfield 58, 3) := by decide +kernel
theorem dX3_become_159 : decode cX3_become 159 = .ok (.return_, 1) := by decide +kernel
theorem dX3_hasExcuse_0 : decode cX3_hasExcuse 0 = .ok (.iload_n 1, 1) := by decide +kernel
theorem dX3_hasExcuse_1 : decode cX3_hasExcuse 1 = .ok (.ifCond .lt 15, 3) := by decide +kernel
theorem dX3_hasExcuse_4 : decode cX3_hasExcuse 4 = .ok (.iload_n 1, 1) := by decide +kernel
theorem dX3_hasExcuse_5 : decode cX3_hasExcuse 5 = .ok (.aload_n 0, 1) := by decide +kernel
theorem dX3_hasExcuse_6 : decode cX3_hasExcuse 6 = .ok (.getfield 18, 3) := by decide +kernel
theorem dX3_hasExcuse_9 : decode cX3_hasExcuse 9 = .ok (.if_icmp .ge 7, 3) := by decide +kernel
theorem dX3_hasExcuse_12 : decode cX3_hasExcuse 12 = .ok (.iconst 1, 1) := by decide +kernel
theorem dX3_hasExcuse_13 : decode cX3_hasExcuse 13 = .ok (.goto 4, 3) := by decide +kernel
theorem dX3_hasExcuse_16 : decode cX3_hasExcuse 16 = .ok (.iconst 0, 1) := by decide +kernel
theorem dX3_hasExcuse_17 : decode cX3_hasExcuse 17 = .ok (.ireturn, 1) := by decide +kernel
theorem dX3_addExcuse_0 : decode cX3_addExcuse 0 = .ok (.aload_n 0, 1) := by decide +kernel
theorem dX3_addExcuse_1 : decode cX3_addExcuse 1 = .ok (.getfield 22, 3) := by decide +kernel
theorem dX3_addExcuse_4 : decode cX3_addExcuse 4 = .ok (.aload_n 0, 1) := by decide +kernel
theorem dX3_addExcuse_5 : decode cX3_addExcuse 5 = .ok (.getfield 18, 3) := by decide +kernel
theorem dX3_addExcuse_8 : decode cX3_addExcuse 8 = .ok (.iload_n 1, 1) := by decide +kernel
theorem dX3_addExcuse_9 : decode cX3_addExcuse 9 = .ok (.iastore, 1) := by decide +kernel
theorem dX3_addExcuse_10 : decode cX3_addExcuse 10 = .ok (.aload_n 0, 1) := by decide +kernel
theorem dX3_addExcuse_11 : decode cX3_addExcuse 11 = .ok (.getfield 25, 3) := by decide +kernel
theorem dX3_addExcuse_14 : decode cX3_addExcuse 14 = .ok (.aload_n 0, 1) := by decide +kernel
theorem dX3_addExcuse_15 : decode cX3_addExcuse 15 = .ok (.getfield 18, 3) := by decide +kernel
theorem dX3_addExcuse_18 : decode cX3_addExcuse 18 = .ok (.iload_n 2, 1) := by decide +kernel
theorem dX3_addExcuse_19 : decode cX3_addExcuse 19 = .ok (.iastore, 1) := by decide +kernel
theorem dX3_addExcuse_20 : decode cX3_addExcuse 20 = .ok (.aload_n 0, 1) := by decide +kernel
theorem dX3_addExcuse_21 : decode cX3_addExcuse 21 = .ok (.dup, 1) := by decide +kernel
theorem dX3_addExcuse_22 : decode cX3_addExcuse 22 = .ok (.getfield 18, 3) := by decide +kernel
theorem dX3_addExcuse_25 : decode cX3_addExcuse 25 = .ok (.iconst 1, 1) := by decide +kernel
theorem dX3_addExcuse_26 : decode cX3_addExcuse 26 = .ok (.iadd, 1) := by decide +kernel
theorem dX3_addExcuse_27 : decode cX3_addExcuse 27 = .ok (.putfield 18, 3) := by decide +kernel
theorem dX3_addExcuse_30 : decode cX3_addExcuse 30 = .ok (.aload_n 0, 1) := by decide +kernel
theorem dX3_addExcuse_31 : decode cX3_addExcuse 31 = .ok (.getfield 18, 3) := by decide +kernel
theorem dX3_addExcuse_34 : decode cX3_addExcuse 34 = .ok (.iconst 1, 1) := by decide +kernel
theorem dX3_addExcuse_35 : decode cX3_addExcuse 35 = .ok (.isub, 1) := by decide +kernel
theorem dX3_addExcuse_36 : decode cX3_addExcuse 36 = .ok (.ireturn, 1) := by decide +kernel
theorem dX3_usesOf_0 : decode cX3_usesOf 0 = .ok (.aload_n 0, 1) := by decide +kernel
theorem dX3_usesOf_1 : decode cX3_usesOf 1 = .ok (.getfield 31, 3) := by decide +kernel
theorem dX3_usesOf_4 : decode cX3_usesOf 4 = .ok (.iload_n 1, 1) := by decide +kernel
theorem dX3_usesOf_5 : decode cX3_usesOf 5 = .ok (.bipush 12, 2) := by decide +kernel
theorem dX3_usesOf_7 : decode cX3_usesOf 7 = .ok (.imul, 1) := by decide +kernel
theorem dX3_usesOf_8 : decode cX3_usesOf 8 = .ok (.iload_n 2, 1) := by decide +kernel
theorem dX3_usesOf_9 : decode cX3_usesOf 9 = .ok (.iadd, 1) := by decide +kernel
theorem dX3_usesOf_10 : decode cX3_usesOf 10 = .ok (.iaload, 1) := by decide +kernel
theorem dX3_usesOf_11 : decode cX3_usesOf 11 = .ok (.ireturn, 1) := by decide +kernel
set_option maxRecDepth 20000 in
theorem ggX3_usesByPupil_X3_usesOf : GoodIn wsX3_usesByPupil wsX3_usesOf := goodIn_r _ [5, 6, 7, 8, 9, 10, 11, 12, 13, 14, 15, 16, 17, 18, 19, 20, 21] (by decide +kernel) (by decide +kernel)
set_option maxRecDepth 20000 in
theorem gX3_usesByPupil_X3_usesOf : GoodIn wsX3_usesByPupil (wsV RX3 65 RX3 yX3_usesOf wsX3_usesOf) := goodIn_app (goodIn_of _ (by decide +kernel)) ggX3_usesByPupil_X3_usesOf
theorem dX3_usesByPupil_0 : decode cX3_usesByPupil 0 = .ok (.iconst 0, 1) := by decide +kernel
theorem dX3_usesByPupil_1 : decode cX3_usesByPupil 1 = .ok (.istore_n 2, 1) := by decide +kernel
theorem dX3_usesByPupil_2 : decode cX3_usesByPupil 2 = .ok (.iconst 0, 1) := by decide +kernel
theorem dX3_usesByPupil_3 : decode cX3_usesByPupil 3 = .ok (.istore_n 3, 1) := by decide +kernel
theorem dX3_usesByPupil_4 : decode cX3_usesByPupil 4 = .ok (.iload_n 3, 1) := by decide +kernel
theorem dX3_usesByPupil_5 : decode cX3_usesByPupil 5 = .ok (.bipush 12, 2) := by decide +kernel
theorem dX3_usesByPupil_7 : decode cX3_usesByPupil 7 = .ok (.if_icmp .ge 18, 3) := by decide +kernel
theorem dX3_usesByPupil_10 : decode cX3_usesByPupil 10 = .ok (.iload_n 2, 1) := by decide +kernel
theorem dX3_usesByPupil_11 : decode cX3_usesByPupil 11 = .ok (.aload_n 0, 1) := by decide +kernel
theorem dX3_usesByPupil_12 : decode cX3_usesByPupil 12 = .ok (.iload_n 1, 1) := by decide +kernel
theorem dX3_usesByPupil_13 : decode cX3_usesByPupil 13 = .ok (.iload_n 3, 1) := by decide +kernel
theorem dX3_usesByPupil_14 : decode cX3_usesByPupil 14 = .ok (.invokevirtual 65, 3) := by decide +kernel
theorem dX3_usesByPupil_17 : decode cX3_usesByPupil 17 = .ok (.iadd, 1) := by decide +kernel
theorem dX3_usesByPupil_18 : decode cX3_usesByPupil 18 = .ok (.istore_n 2, 1) := by decide +kernel
theorem dX3_usesByPupil_19 : decode cX3_usesByPupil 19 = .ok (.iinc 3 1, 3) := by decide +kernel
theorem dX3_usesByPupil_22 : decode cX3_usesByPupil 22 = .ok (.goto (-18), 3) := by decide +kernel
theorem dX3_usesByPupil_25 : decode cX3_usesByPupil 25 = .ok (.iload_n 2, 1) := by decide +kernel
theorem dX3_usesByPupil_26 : decode cX3_usesByPupil 26 = .ok (.ireturn, 1) := by decide +kernel
theorem dX3_usesByClass_0 : decode cX3_usesByClass 0 = .ok (.iconst 2, 1) := by decide +kernel
theorem dX3_usesByClass_1 : decode cX3_usesByClass 1 = .ok (.iload_n 1, 1) := by decide +kernel
theorem dX3_usesByClass_2 : decode cX3_usesByClass 2 = .ok (.imul, 1) := by decide +kernel
theorem dX3_usesByClass_3 : decode cX3_usesByClass 3 = .ok (.bipush 12, 2) := by decide +kernel
theorem dX3_usesByClass_5 : decode cX3_usesByClass 5 = .ok (.imul, 1) := by decide +kernel
theorem dX3_usesByClass_6 : decode cX3_usesByClass 6 = .ok (.iload_n 2, 1) := by decide +kernel
theorem dX3_usesByClass_7 : decode cX3_usesByClass 7 = .ok (.iadd, 1) := by decide +kernel
theorem dX3_usesByClass_8 : decode cX3_usesByClass 8 = .ok (.istore_n 3, 1) := by decide +kernel
theorem dX3_usesByClass_9 : decode cX3_usesByClass 9 = .ok (.aload_n 0, 1) := by decide +kernel
theorem dX3_usesByClass_10 : decode cX3_usesByClass 10 = .ok (.getfield 31, 3) := by decide +kernel
theorem dX3_usesByClass_13 : decode cX3_usesByClass 13 = .ok (.iload_n 3, 1) := by decide +kernel
theorem dX3_usesByClass_14 : decode cX3_usesByClass 14 = .ok (.iaload, 1) := by decide +kernel
theorem dX3_usesByClass_15 : decode cX3_usesByClass 15 = .ok (.aload_n 0, 1) := by decide +kernel
theorem dX3_usesByClass_16 : decode cX3_usesByClass 16 = .ok (.getfield 31, 3) := by decide +kernel
theorem dX3_usesByClass_19 : decode cX3_usesByClass 19 = .ok (.iload_n 3, 1) := by decide +kernel
theorem dX3_usesByClass_20 : decode cX3_usesByClass 20 = .ok (.bipush 12, 2) := by decide +kernel
theorem dX3_usesByClass_22 : decode cX3_usesByClass 22 = .ok (.iadd, 1) := by decide +kernel
theorem dX3_usesByClass_23 : decode cX3_usesByClass 23 = .ok (.iaload, 1) := by decide +kernel
theorem dX3_usesByClass_24 : decode cX3_usesByClass 24 = .ok (.iadd, 1) := by decide +kernel
theorem dX3_usesByClass_25 : decode cX3_usesByClass 25 = .ok (.ireturn, 1) := by decide +kernel
theorem dX3_usesBySchool_0 : decode cX3_usesBySchool 0 = .ok (.iconst 0, 1) := by decide +kernel
theorem dX3_usesBySchool_1 : decode cX3_usesBySchool 1 = .ok (.istore_n 2, 1) := by decide +kernel
theorem dX3_usesBySchool_2 : decode cX3_usesBySchool 2 = .ok (.iload_n 1, 1) := by decide +kernel
theorem dX3_usesBySchool_3 : decode cX3_usesBySchool 3 = .ok (.istore_n 3, 1) := by decide +kernel
theorem dX3_usesBySchool_4 : decode cX3_usesBySchool 4 = .ok (.iload_n 3, 1) := by decide +kernel
theorem dX3_usesBySchool_5 : decode cX3_usesBySchool 5 = .ok (.aload_n 0, 1) := by decide +kernel
theorem dX3_usesBySchool_6 : decode cX3_usesBySchool 6 = .ok (.getfield 31, 3) := by decide +kernel
theorem dX3_usesBySchool_9 : decode cX3_usesBySchool 9 = .ok (.arraylength, 1) := by decide +kernel
theorem dX3_usesBySchool_10 : decode cX3_usesBySchool 10 = .ok (.if_icmp .ge 18, 3) := by decide +kernel
theorem dX3_usesBySchool_13 : decode cX3_usesBySchool 13 = .ok (.iload_n 2, 1) := by decide +kernel
theorem dX3_usesBySchool_14 : decode cX3_usesBySchool 14 = .ok (.aload_n 0, 1) := by decide +kernel
theorem dX3_usesBySchool_15 : decode cX3_usesBySchool 15 = .ok (.getfield 31, 3) := by decide +kernel
theorem dX3_usesBySchool_18 : decode cX3_usesBySchool 18 = .ok (.iload_n 3, 1) := by decide +kernel
theorem dX3_usesBySchool_19 : decode cX3_usesBySchool 19 = .ok (.iaload, 1) := by decide +kernel
theorem dX3_usesBySchool_20 : decode cX3_usesBySchool 20 = .ok (.iadd, 1) := by decide +kernel
theorem dX3_usesBySchool_21 : decode cX3_usesBySchool 21 = .ok (.istore_n 2, 1) := by decide +kernel
theorem dX3_usesBySchool_22 : decode cX3_usesBySchool 22 = .ok (.iinc 3 12, 3) := by decide +kernel
theorem dX3_usesBySchool_25 : decode cX3_usesBySchool 25 = .ok (.goto (-21), 3) := by decide +kernel
theorem dX3_usesBySchool_28 : decode cX3_usesBySchool 28 = .ok (.iload_n 2, 1) := by decide +kernel
theorem dX3_usesBySchool_29 : decode cX3_usesBySchool 29 = .ok (.ireturn, 1) := by decide +kernel
set_option maxRecDepth 20000 in
theorem ggX3_usersOf_X3_usesOf : GoodIn wsX3_usersOf wsX3_usesOf := goodIn_r _ [5, 6, 7, 8, 9, 10, 11, 12, 13, 14, 15, 16, 17, 18, 19, 20, 21] (by decide +kernel) (by decide +kernel)
set_option maxRecDepth 20000 in
theorem gX3_usersOf_X3_usesOf : GoodIn wsX3_usersOf (wsV RX3 65 RX3 yX3_usesOf wsX3_usesOf) := goodIn_app (goodIn_of _ (by decide +kernel)) ggX3_usersOf_X3_usesOf
theorem dX3_usersOf_0 : decode cX3_usersOf 0 = .ok (.iconst 0, 1) := by decide +kernel
theorem dX3_usersOf_1 : decode cX3_usersOf 1 = .ok (.istore_n 2, 1) := by decide +kernel
theorem dX3_usersOf_2 : decode cX3_usersOf 2 = .ok (.iconst 0, 1) := by decide +kernel
theorem dX3_usersOf_3 : decode cX3_usersOf 3 = .ok (.istore_n 3, 1) := by decide +kernel
theorem dX3_usersOf_4 : decode cX3_usersOf 4 = .ok (.iload_n 3, 1) := by decide +kernel
theorem dX3_usersOf_5 : decode cX3_usersOf 5 = .ok (.bipush 10, 2) := by decide +kernel
theorem dX3_usersOf_7 : decode cX3_usersOf 7 = .ok (.if_icmp .ge 24, 3) := by decide +kernel
theorem dX3_usersOf_10 : decode cX3_usersOf 10 = .ok (.aload_n 0, 1) := by decide +kernel
theorem dX3_usersOf_11 : decode cX3_usersOf 11 = .ok (.iload_n 3, 1) := by decide +kernel
theorem dX3_usersOf_12 : decode cX3_usersOf 12 = .ok (.iload_n 1, 1) := by decide +kernel
theorem dX3_usersOf_13 : decode cX3_usersOf 13 = .ok (.invokevirtual 65, 3) := by decide +kernel
theorem dX3_usersOf_16 : decode cX3_usersOf 16 = .ok (.ifCond .le 9, 3) := by decide +kernel
theorem dX3_usersOf_19 : decode cX3_usersOf 19 = .ok (.iload_n 2, 1) := by decide +kernel
theorem dX3_usersOf_20 : decode cX3_usersOf 20 = .ok (.iconst 1, 1) := by decide +kernel
theorem dX3_usersOf_21 : decode cX3_usersOf 21 = .ok (.iload_n 3, 1) := by decide +kernel
theorem dX3_usersOf_22 : decode cX3_usersOf 22 = .ok (.ishl, 1) := by decide +kernel
theorem dX3_usersOf_23 : decode cX3_usersOf 23 = .ok (.ior, 1) := by decide +kernel
theorem dX3_usersOf_24 : decode cX3_usersOf 24 = .ok (.istore_n 2, 1) := by decide +kernel
theorem dX3_usersOf_25 : decode cX3_usersOf 25 = .ok (.iinc 3 1, 3) := by decide +kernel
theorem dX3_usersOf_28 : decode cX3_usersOf 28 = .ok (.goto (-24), 3) := by decide +kernel
theorem dX3_usersOf_31 : decode cX3_usersOf 31 = .ok (.iload_n 2, 1) := by decide +kernel
theorem dX3_usersOf_32 : decode cX3_usersOf 32 = .ok (.ireturn, 1) := by decide +kernel
set_option maxRecDepth 20000 in
theorem ggX3_noveltyFor_X3_usesBySchool : GoodIn wsX3_noveltyFor wsX3_usesBySchool := goodIn_r _ [10, 11, 19, 20, 21, 22, 23, 24, 25, 26, 27, 28, 29, 30, 31, 32, 33] (by decide +kernel) (by decide +kernel)
set_option maxRecDepth 20000 in
theorem gX3_noveltyFor_X3_usesBySchool : GoodIn wsX3_noveltyFor (wsV RX3 69 RX3 yX3_usesBySchool wsX3_usesBySchool) := goodIn_app (goodIn_of _ (by decide +kernel)) ggX3_noveltyFor_X3_usesBySchool
set_option maxRecDepth 20000 in
theorem ggX3_noveltyFor_X4_classOf : GoodIn wsX3_noveltyFor wsX4_classOf := goodIn_r _ [14] (by decide +kernel) (by decide +kernel)
set_option maxRecDepth 20000 in
theorem gX3_noveltyFor_X4_classOf_n73 : GoodIn wsX3_noveltyFor (wsX4_classOf) := ggX3_noveltyFor_X4_classOf
set_option maxRecDepth 20000 in
theorem ggX3_noveltyFor_X3_usesByClass : GoodIn wsX3_noveltyFor wsX3_usesByClass := goodIn_r _ [18, 11, 19, 20, 21, 22, 23, 24, 25, 26, 27, 28, 29, 30, 31, 32, 33] (by decide +kernel) (by decide +kernel)
set_option maxRecDepth 20000 in
theorem gX3_noveltyFor_X3_usesByClass : GoodIn wsX3_noveltyFor (wsV RX3 76 RX3 yX3_usesByClass wsX3_usesByClass) := goodIn_app (goodIn_of _ (by decide +kernel)) ggX3_noveltyFor_X3_usesByClass
theorem dX3_noveltyFor_0 : decode cX3_noveltyFor 0 = .ok (.aload_n 0, 1) := by decide +kernel
theorem dX3_noveltyFor_1 : decode cX3_noveltyFor 1 = .ok (.getfield 13, 3) := by decide +kernel
theorem dX3_noveltyFor_4 : decode cX3_noveltyFor 4 = .ok (.iconst 1, 1) := by decide +kernel
theorem dX3_noveltyFor_5 : decode cX3_noveltyFor 5 = .ok (.iaload, 1) := by decide +kernel
theorem dX3_noveltyFor_6 : decode cX3_noveltyFor 6 = .ok (.aload_n 0, 1) := by decide +kernel
theorem dX3_noveltyFor_7 : decode cX3_noveltyFor 7 = .ok (.iload_n 2, 1) := by decide +kernel
theorem dX3_noveltyFor_8 : decode cX3_noveltyFor 8 = .ok (.invokevirtual 69, 3) := by decide +kernel
theorem dX3_noveltyFor_11 : decode cX3_noveltyFor 11 = .ok (.aload_n 0, 1) := by decide +kernel
theorem dX3_noveltyFor_12 : decode cX3_noveltyFor 12 = .ok (.iload_n 1, 1) := by decide +kernel
theorem dX3_noveltyFor_13 : decode cX3_noveltyFor 13 = .ok (.invokestatic 73, 3) := by decide +kernel
theorem dX3_noveltyFor_16 : decode cX3_noveltyFor 16 = .ok (.iload_n 2, 1) := by decide +kernel
theorem dX3_noveltyFor_17 : decode cX3_noveltyFor 17 = .ok (.invokevirtual 76, 3) := by decide +kernel
theorem dX3_noveltyFor_20 : decode cX3_noveltyFor 20 = .ok (.iadd, 1) := by decide +kernel
theorem dX3_noveltyFor_21 : decode cX3_noveltyFor 21 = .ok (.imul, 1) := by decide +kernel
theorem dX3_noveltyFor_22 : decode cX3_noveltyFor 22 = .ok (.istore_n 3, 1) := by decide +kernel
theorem dX3_noveltyFor_23 : decode cX3_noveltyFor 23 = .ok (.iconst 0, 1) := by decide +kernel
theorem dX3_noveltyFor_24 : decode cX3_noveltyFor 24 = .ok (.bipush 100, 2) := by decide +kernel
theorem dX3_noveltyFor_26 : decode cX3_noveltyFor 26 = .ok (.iload_n 3, 1) := by decide +kernel
theorem dX3_noveltyFor_27 : decode cX3_noveltyFor 27 = .ok (.isub, 1) := by decide +kernel
theorem dX3_noveltyFor_28 : decode cX3_noveltyFor 28 = .ok (.invokestatic 79, 3) := by decide +kernel
theorem dX3_noveltyFor_31 : decode cX3_noveltyFor 31 = .ok (.ireturn, 1) := by decide +kernel
set_option maxRecDepth 20000 in
theorem ggX3_wornOutExcuses_X3_isWornOut : GoodIn wsX3_wornOutExcuses wsX3_isWornOut := goodIn_r _ [6, 7, 8, 9, 5, 10, 11, 12, 13, 14, 15, 16, 17, 18, 19, 20, 21, 22, 23, 24, 25, 26, 27, 28, 29, 30, 31, 32, 33, 34, 35, 36, 37, 38, 39, 40, 41, 42] (by decide +kernel) (by decide +kernel)
set_option maxRecDepth 20000 in
theorem gX3_wornOutExcuses_X3_isWornOut : GoodIn wsX3_wornOutExcuses (wsV RX3 84 RX3 yX3_isWornOut wsX3_isWornOut) := goodIn_app (goodIn_of _ (by decide +kernel)) ggX3_wornOutExcuses_X3_isWornOut
theorem dX3_wornOutExcuses_0 : decode cX3_wornOutExcuses 0 = .ok (.iconst 0, 1) := by decide +kernel
theorem dX3_wornOutExcuses_1 : decode cX3_wornOutExcuses 1 = .ok (.istore_n 1, 1) := by decide +kernel
theorem dX3_wornOutExcuses_2 : decode cX3_wornOutExcuses 2 = .ok (.iconst 0, 1) := by decide +kernel
theorem dX3_wornOutExcuses_3 : decode cX3_wornOutExcuses 3 = .ok (.istore_n 2, 1) := by decide +kernel
theorem dX3_wornOutExcuses_4 : decode cX3_wornOutExcuses 4 = .ok (.iload_n 2, 1) := by decide +kernel
theorem dX3_wornOutExcuses_5 : decode cX3_wornOutExcuses 5 = .ok (.aload_n 0, 1) := by decide +kernel
theorem dX3_wornOutExcuses_6 : decode cX3_wornOutExcuses 6 = .ok (.getfield 18, 3) := by decide +kernel
theorem dX3_wornOutExcuses_9 : decode cX3_wornOutExcuses 9 = .ok (.if_icmp .ge 20, 3) := by decide +kernel
theorem dX3_wornOutExcuses_12 : decode cX3_wornOutExcuses 12 = .ok (.aload_n 0, 1) := by decide +kernel
theorem dX3_wornOutExcuses_13 : decode cX3_wornOutExcuses 13 = .ok (.iload_n 2, 1) := by decide +kernel
theorem dX3_wornOutExcuses_14 : decode cX3_wornOutExcuses 14 = .ok (.invokevirtual 84, 3) := by decide +kernel
theorem dX3_wornOutExcuses_17 : decode cX3_wornOutExcuses 17 = .ok (.ifCond .eq 6, 3) := by decide +kernel
theorem dX3_wornOutExcuses_20 : decode cX3_wornOutExcuses 20 = .ok (.iinc 1 1, 3) := by decide +kernel
theorem dX3_wornOutExcuses_23 : decode cX3_wornOutExcuses 23 = .ok (.iinc 2 1, 3) := by decide +kernel
theorem dX3_wornOutExcuses_26 : decode cX3_wornOutExcuses 26 = .ok (.goto (-22), 3) := by decide +kernel
theorem dX3_wornOutExcuses_29 : decode cX3_wornOutExcuses 29 = .ok (.iload_n 1, 1) := by decide +kernel
theorem dX3_wornOutExcuses_30 : decode cX3_wornOutExcuses 30 = .ok (.ireturn, 1) := by decide +kernel
set_option maxRecDepth 20000 in
theorem ggX3_isWornOut_X3_noveltyFor : GoodIn wsX3_isWornOut wsX3_noveltyFor := goodIn_r _ [5, 6, 7, 8, 9, 10, 11, 12, 13, 4, 14, 15, 16, 17, 18, 19, 20, 21, 22, 23, 24, 25, 26, 27, 28, 29, 30, 31, 32, 33, 34, 35, 36, 37] (by decide +kernel) (by decide +kernel)
set_option maxRecDepth 20000 in
theorem gX3_isWornOut_X3_noveltyFor : GoodIn wsX3_isWornOut (wsV RX3 88 RX3 yX3_noveltyFor wsX3_noveltyFor) := goodIn_app (goodIn_of _ (by decide +kernel)) ggX3_isWornOut_X3_noveltyFor
theorem dX3_isWornOut_0 : decode cX3_isWornOut 0 = .ok (.iconst 0, 1) := by decide +kernel
theorem dX3_isWornOut_1 : decode cX3_isWornOut 1 = .ok (.istore_n 2, 1) := by decide +kernel
theorem dX3_isWornOut_2 : decode cX3_isWornOut 2 = .ok (.iload_n 2, 1) := by decide +kernel
theorem dX3_isWornOut_3 : decode cX3_isWornOut 3 = .ok (.bipush 10, 2) := by decide +kernel
theorem dX3_isWornOut_5 : decode cX3_isWornOut 5 = .ok (.if_icmp .ge 20, 3) := by decide +kernel
theorem dX3_isWornOut_8 : decode cX3_isWornOut 8 = .ok (.aload_n 0, 1) := by decide +kernel
theorem dX3_isWornOut_9 : decode cX3_isWornOut 9 = .ok (.iload_n 2, 1) := by decide +kernel
theorem dX3_isWornOut_10 : decode cX3_isWornOut 10 = .ok (.iload_n 1, 1) := by decide +kernel
theorem dX3_isWornOut_11 : decode cX3_isWornOut 11 = .ok (.invokevirtual 88, 3) := by decide +kernel
theorem dX3_isWornOut_14 : decode cX3_isWornOut 14 = .ok (.ifCond .le 5, 3) := by decide +kernel
theorem dX3_isWornOut_17 : decode cX3_isWornOut 17 = .ok (.iconst 0, 1) := by decide +kernel
theorem dX3_isWornOut_18 : decode cX3_isWornOut 18 = .ok (.ireturn, 1) := by decide +kernel
theorem dX3_isWornOut_19 : decode cX3_isWornOut 19 = .ok (.iinc 2 1, 3) := by decide +kernel
theorem dX3_isWornOut_22 : decode cX3_isWornOut 22 = .ok (.goto (-20), 3) := by decide +kernel
theorem dX3_isWornOut_25 : decode cX3_isWornOut 25 = .ok (.iconst 1, 1) := by decide +kernel
theorem dX3_isWornOut_26 : decode cX3_isWornOut 26 = .ok (.ireturn, 1) := by decide +kernel
set_option maxRecDepth 20000 in
theorem ggX3_weightOf_X3_noveltyFor : GoodIn wsX3_weightOf wsX3_noveltyFor := goodIn_r _ [8, 2, 9, 10, 11, 12, 13, 14, 15, 7, 16, 17, 18, 19, 20, 21, 22, 23, 24, 30, 31, 32, 33, 34, 35, 36, 37, 38, 39, 40, 41, 42, 43, 44] (by decide +kernel) (by decide +kernel)
set_option maxRecDepth 20000 in
theorem gX3_weightOf_X3_noveltyFor : GoodIn wsX3_weightOf (wsV RX3 88 RX3 yX3_noveltyFor wsX3_noveltyFor) := goodIn_app (goodIn_of _ (by decide +kernel)) ggX3_weightOf_X3_noveltyFor
set_option maxRecDepth 20000 in
theorem ggX3_weightOf_X4_classOf : GoodIn wsX3_weightOf wsX4_classOf := goodIn_r _ [20] (by decide +kernel) (by decide +kernel)
set_option maxRecDepth 20000 in
theorem gX3_weightOf_X4_classOf_n73 : GoodIn wsX3_weightOf (wsX4_classOf) := ggX3_weightOf_X4_classOf
set_option maxRecDepth 20000 in
theorem ggX3_weightOf_X3_standingOf : GoodIn wsX3_weightOf wsX3_standingOf := goodIn_r _ [28, 29, 9, 10, 11, 12, 18, 19, 20, 30, 31, 32, 33, 34, 35, 36, 37, 38, 39, 40, 41, 42, 43, 44] (by decide +kernel) (by decide +kernel)
set_option maxRecDepth 20000 in
theorem gX3_weightOf_X3_standingOf : GoodIn wsX3_weightOf (wsV RX3 91 RX3 yX3_standingOf wsX3_standingOf) := goodIn_app (goodIn_of _ (by decide +kernel)) ggX3_weightOf_X3_standingOf
theorem dX3_weightOf_0 : decode cX3_weightOf 0 = .ok (.aload_n 0, 1) := by decide +kernel
theorem dX3_weightOf_1 : decode cX3_weightOf 1 = .ok (.getfield 25, 3) := by decide +kernel
theorem dX3_weightOf_4 : decode cX3_weightOf 4 = .ok (.iload_n 2, 1) := by decide +kernel
theorem dX3_weightOf_5 : decode cX3_weightOf 5 = .ok (.iaload, 1) := by decide +kernel
theorem dX3_weightOf_6 : decode cX3_weightOf 6 = .ok (.aload_n 0, 1) := by decide +kernel
theorem dX3_weightOf_7 : decode cX3_weightOf 7 = .ok (.iload_n 1, 1) := by decide +kernel
theorem dX3_weightOf_8 : decode cX3_weightOf 8 = .ok (.iload_n 2, 1) := by decide +kernel
theorem dX3_weightOf_9 : decode cX3_weightOf 9 = .ok (.invokevirtual 88, 3) := by decide +kernel
theorem dX3_weightOf_12 : decode cX3_weightOf 12 = .ok (.imul, 1) := by decide +kernel
theorem dX3_weightOf_13 : decode cX3_weightOf 13 = .ok (.bipush 100, 2) := by decide +kernel
theorem dX3_weightOf_15 : decode cX3_weightOf 15 = .ok (.idiv, 1) := by decide +kernel
theorem dX3_weightOf_16 : decode cX3_weightOf 16 = .ok (.istore 5, 2) := by decide +kernel
theorem dX3_weightOf_18 : decode cX3_weightOf 18 = .ok (.iload 5, 2) := by decide +kernel
theorem dX3_weightOf_20 : decode cX3_weightOf 20 = .ok (.aload_n 0, 1) := by decide +kernel
theorem dX3_weightOf_21 : decode cX3_weightOf 21 = .ok (.getfield 13, 3) := by decide +kernel
theorem dX3_weightOf_24 : decode cX3_weightOf 24 = .ok (.iconst 4, 1) := by decide +kernel
theorem dX3_weightOf_25 : decode cX3_weightOf 25 = .ok (.iaload, 1) := by decide +kernel
theorem dX3_weightOf_26 : decode cX3_weightOf 26 = .ok (.aload_n 0, 1) := by decide +kernel
theorem dX3_weightOf_27 : decode cX3_weightOf 27 = .ok (.getfield 52, 3) := by decide +kernel
theorem dX3_weightOf_30 : decode cX3_weightOf 30 = .ok (.iload_n 1, 1) := by decide +kernel
theorem dX3_weightOf_31 : decode cX3_weightOf 31 = .ok (.invokestatic 73, 3) := by decide +kernel
theorem dX3_weightOf_34 : decode cX3_weightOf 34 = .ok (.iaload, 1) := by decide +kernel
theorem dX3_weightOf_35 : decode cX3_weightOf 35 = .ok (.imul, 1) := by decide +kernel
theorem dX3_weightOf_36 : decode cX3_weightOf 36 = .ok (.isub, 1) := by decide +kernel
theorem dX3_weightOf_37 : decode cX3_weightOf 37 = .ok (.istore 5, 2) := by decide +kernel
theorem dX3_weightOf_39 : decode cX3_weightOf 39 = .ok (.iload 5, 2) := by decide +kernel
theorem dX3_weightOf_41 : decode cX3_weightOf 41 = .ok (.iload 4, 2) := by decide +kernel
theorem dX3_weightOf_43 : decode cX3_weightOf 43 = .ok (.bipush 10, 2) := by decide +kernel
theorem dX3_weightOf_45 : decode cX3_weightOf 45 = .ok (.idiv, 1) := by decide +kernel
theorem dX3_weightOf_46 : decode cX3_weightOf 46 = .ok (.isub, 1) := by decide +kernel
theorem dX3_weightOf_47 : decode cX3_weightOf 47 = .ok (.istore 5, 2) := by decide +kernel
theorem dX3_weightOf_49 : decode cX3_weightOf 49 = .ok (.iload_n 3, 1) := by decide +kernel
theorem dX3_weightOf_50 : decode cX3_weightOf 50 = .ok (.bipush (-6), 2) := by decide +kernel
theorem dX3_weightOf_52 : decode cX3_weightOf 52 = .ok (.if_icmp .eq 14, 3) := by decide +kernel
theorem dX3_weightOf_55 : decode cX3_weightOf 55 = .ok (.iload 5, 2) := by decide +kernel
theorem dX3_weightOf_57 : decode cX3_weightOf 57 = .ok (.aload_n 0, 1) := by decide +kernel
theorem dX3_weightOf_58 : decode cX3_weightOf 58 = .ok (.iload_n 3, 1) := by decide +kernel
theorem dX3_weightOf_59 : decode cX3_weightOf 59 = .ok (.iload_n 1, 1) := by decide +kernel
theorem dX3_weightOf_60 : decode cX3_weightOf 60 = .ok (.invokevirtual 91, 3) := by decide +kernel
theorem dX3_weightOf_63 : decode cX3_weightOf 63 = .ok (.iadd, 1) := by decide +kernel
theorem dX3_weightOf_64 : decode cX3_weightOf 64 = .ok (.istore 5, 2) := by decide +kernel
theorem dX3_weightOf_66 : decode cX3_weightOf 66 = .ok (.iload 5, 2) := by decide +kernel
theorem dX3_weightOf_68 : decode cX3_weightOf 68 = .ok (.ireturn, 1) := by decide +kernel
set_option maxRecDepth 20000 in
theorem ggX3_standingOf_X4_classOf : GoodIn wsX3_standingOf wsX4_classOf := goodIn_r _ [8] (by decide +kernel) (by decide +kernel)
set_option maxRecDepth 20000 in
theorem gX3_standingOf_X4_classOf_n73 : GoodIn wsX3_standingOf (wsX4_classOf) := ggX3_standingOf_X4_classOf
theorem dX3_standingOf_0 : decode cX3_standingOf 0 = .ok (.iload_n 1, 1) := by decide +kernel
theorem dX3_standingOf_1 : decode cX3_standingOf 1 = .ok (.invokestatic 73, 3) := by decide +kernel
theorem dX3_standingOf_4 : decode cX3_standingOf 4 = .ok (.iload_n 2, 1) := by decide +kernel
theorem dX3_standingOf_5 : decode cX3_standingOf 5 = .ok (.invokestatic 73, 3) := by decide +kernel
theorem dX3_standingOf_8 : decode cX3_standingOf 8 = .ok (.if_icmp .ne 16, 3) := by decide +kernel
theorem dX3_standingOf_11 : decode cX3_standingOf 11 = .ok (.iconst 0, 1) := by decide +kernel
theorem dX3_standingOf_12 : decode cX3_standingOf 12 = .ok (.aload_n 0, 1) := by decide +kernel
theorem dX3_standingOf_13 : decode cX3_standingOf 13 = .ok (.getfield 34, 3) := by decide +kernel
theorem dX3_standingOf_16 : decode cX3_standingOf 16 = .ok (.iload_n 1, 1) := by decide +kernel
theorem dX3_standingOf_17 : decode cX3_standingOf 17 = .ok (.iaload, 1) := by decide +kernel
theorem dX3_standingOf_18 : decode cX3_standingOf 18 = .ok (.iconst 2, 1) := by decide +kernel
theorem dX3_standingOf_19 : decode cX3_standingOf 19 = .ok (.isub, 1) := by decide +kernel
theorem dX3_standingOf_20 : decode cX3_standingOf 20 = .ok (.invokestatic 79, 3) := by decide +kernel
theorem dX3_standingOf_23 : decode cX3_standingOf 23 = .ok (.ireturn, 1) := by decide +kernel
theorem dX3_standingOf_24 : decode cX3_standingOf 24 = .ok (.aload_n 0, 1) := by decide +kernel
theorem dX3_standingOf_25 : decode cX3_standingOf 25 = .ok (.getfield 34, 3) := by decide +kernel
theorem dX3_standingOf_28 : decode cX3_standingOf 28 = .ok (.iload_n 1, 1) := by decide +kernel
theorem dX3_standingOf_29 : decode cX3_standingOf 29 = .ok (.iaload, 1) := by decide +kernel
theorem dX3_standingOf_30 : decode cX3_standingOf 30 = .ok (.ireturn, 1) := by decide +kernel
set_option maxRecDepth 20000 in
theorem ggX3_reasonAgainst_X3_usesOf : GoodIn wsX3_reasonAgainst wsX3_usesOf := goodIn_r _ [9, 10, 40, 41, 42, 43, 44, 45, 46, 47, 48, 49, 50, 51, 52, 53, 54] (by decide +kernel) (by decide +kernel)
set_option maxRecDepth 20000 in
theorem gX3_reasonAgainst_X3_usesOf : GoodIn wsX3_reasonAgainst (wsV RX3 65 RX3 yX3_usesOf wsX3_usesOf) := goodIn_app (goodIn_of _ (by decide +kernel)) ggX3_reasonAgainst_X3_usesOf
set_option maxRecDepth 20000 in
theorem ggX3_reasonAgainst_X3_weightOf : GoodIn wsX3_reasonAgainst wsX3_weightOf := goodIn_r _ [14, 15, 1, 16, 17, 18, 19, 8, 20, 21, 22, 23, 24, 25, 26, 27, 28, 10, 29, 30, 31, 32, 33, 34, 35, 36, 37, 38, 39, 4, 40, 41, 42, 43, 44, 45, 46, 47, 48, 49, 50, 51, 52, 53, 54] (by decide +kernel) (by decide +kernel)
set_option maxRecDepth 20000 in
theorem gX3_reasonAgainst_X3_weightOf : GoodIn wsX3_reasonAgainst (wsV RX3 94 RX3 yX3_weightOf wsX3_weightOf) := goodIn_app (goodIn_of _ (by decide +kernel)) ggX3_reasonAgainst_X3_weightOf
theorem dX3_reasonAgainst_0 : decode cX3_reasonAgainst 0 = .ok (.aload_n 0, 1) := by decide +kernel
theorem dX3_reasonAgainst_1 : decode cX3_reasonAgainst 1 = .ok (.iload_n 1, 1) := by decide +kernel
theorem dX3_reasonAgainst_2 : decode cX3_reasonAgainst 2 = .ok (.iload_n 2, 1) := by decide +kernel
theorem dX3_reasonAgainst_3 : decode cX3_reasonAgainst 3 = .ok (.invokevirtual 65, 3) := by decide +kernel
theorem dX3_reasonAgainst_6 : decode cX3_reasonAgainst 6 = .ok (.aload_n 0, 1) := by decide +kernel
theorem dX3_reasonAgainst_7 : decode cX3_reasonAgainst 7 = .ok (.getfield 13, 3) := by decide +kernel
theorem dX3_reasonAgainst_10 : decode cX3_reasonAgainst 10 = .ok (.iconst 2, 1) := by decide +kernel
theorem dX3_reasonAgainst_11 : decode cX3_reasonAgainst 11 = .ok (.iaload, 1) := by decide +kernel
theorem dX3_reasonAgainst_12 : decode cX3_reasonAgainst 12 = .ok (.if_icmp .lt 5, 3) := by decide +kernel
theorem dX3_reasonAgainst_15 : decode cX3_reasonAgainst 15 = .ok (.iconst 1, 1) := by decide +kernel
theorem dX3_reasonAgainst_16 : decode cX3_reasonAgainst 16 = .ok (.ireturn, 1) := by decide +kernel
theorem dX3_reasonAgainst_17 : decode cX3_reasonAgainst 17 = .ok (.aload_n 0, 1) := by decide +kernel
theorem dX3_reasonAgainst_18 : decode cX3_reasonAgainst 18 = .ok (.getfield 49, 3) := by decide +kernel
theorem dX3_reasonAgainst_21 : decode cX3_reasonAgainst 21 = .ok (.iload_n 1, 1) := by decide +kernel
theorem dX3_reasonAgainst_22 : decode cX3_reasonAgainst 22 = .ok (.iaload, 1) := by decide +kernel
theorem dX3_reasonAgainst_23 : decode cX3_reasonAgainst 23 = .ok (.aload_n 0, 1) := by decide +kernel
theorem dX3_reasonAgainst_24 : decode cX3_reasonAgainst 24 = .ok (.getfield 22, 3) := by decide +kernel
theorem dX3_reasonAgainst_27 : decode cX3_reasonAgainst 27 = .ok (.iload_n 2, 1) := by decide +kernel
theorem dX3_reasonAgainst_28 : decode cX3_reasonAgainst 28 = .ok (.iaload, 1) := by decide +kernel
theorem dX3_reasonAgainst_29 : decode cX3_reasonAgainst 29 = .ok (.if_icmp .ne 5, 3) := by decide +kernel
theorem dX3_reasonAgainst_32 : decode cX3_reasonAgainst 32 = .ok (.iconst 2, 1) := by decide +kernel
theorem dX3_reasonAgainst_33 : decode cX3_reasonAgainst 33 = .ok (.ireturn, 1) := by decide +kernel
theorem dX3_reasonAgainst_34 : decode cX3_reasonAgainst 34 = .ok (.iload_n 3, 1) := by decide +kernel
theorem dX3_reasonAgainst_35 : decode cX3_reasonAgainst 35 = .ok (.bipush (-6), 2) := by decide +kernel
theorem dX3_reasonAgainst_37 : decode cX3_reasonAgainst 37 = .ok (.if_icmp .eq 14, 3) := by decide +kernel
theorem dX3_reasonAgainst_40 : decode cX3_reasonAgainst 40 = .ok (.aload_n 0, 1) := by decide +kernel
theorem dX3_reasonAgainst_41 : decode cX3_reasonAgainst 41 = .ok (.getfield 34, 3) := by decide +kernel
theorem dX3_reasonAgainst_44 : decode cX3_reasonAgainst 44 = .ok (.iload_n 3, 1) := by decide +kernel
theorem dX3_reasonAgainst_45 : decode cX3_reasonAgainst 45 = .ok (.iaload, 1) := by decide +kernel
theorem dX3_reasonAgainst_46 : decode cX3_reasonAgainst 46 = .ok (.ifCond .ne 5, 3) := by decide +kernel
theorem dX3_reasonAgainst_49 : decode cX3_reasonAgainst 49 = .ok (.iconst 3, 1) := by decide +kernel
theorem dX3_reasonAgainst_50 : decode cX3_reasonAgainst 50 = .ok (.ireturn, 1) := by decide +kernel
theorem dX3_reasonAgainst_51 : decode cX3_reasonAgainst 51 = .ok (.aload_n 0, 1) := by decide +kernel
theorem dX3_reasonAgainst_52 : decode cX3_reasonAgainst 52 = .ok (.iload_n 1, 1) := by decide +kernel
theorem dX3_reasonAgainst_53 : decode cX3_reasonAgainst 53 = .ok (.iload_n 2, 1) := by decide +kernel
theorem dX3_reasonAgainst_54 : decode cX3_reasonAgainst 54 = .ok (.iload_n 3, 1) := by decide +kernel
theorem dX3_reasonAgainst_55 : decode cX3_reasonAgainst 55 = .ok (.iload 4, 2) := by decide +kernel
theorem dX3_reasonAgainst_57 : decode cX3_reasonAgainst 57 = .ok (.invokevirtual 94, 3) := by decide +kernel
theorem dX3_reasonAgainst_60 : decode cX3_reasonAgainst 60 = .ok (.aload_n 0, 1) := by decide +kernel
theorem dX3_reasonAgainst_61 : decode cX3_reasonAgainst 61 = .ok (.getfield 13, 3) := by decide +kernel
theorem dX3_reasonAgainst_64 : decode cX3_reasonAgainst 64 = .ok (.iconst 0, 1) := by decide +kernel
theorem dX3_reasonAgainst_65 : decode cX3_reasonAgainst 65 = .ok (.iaload, 1) := by decide +kernel
theorem dX3_reasonAgainst_66 : decode cX3_reasonAgainst 66 = .ok (.if_icmp .ge 5, 3) := by decide +kernel
theorem dX3_reasonAgainst_69 : decode cX3_reasonAgainst 69 = .ok (.iconst 4, 1) := by decide +kernel
theorem dX3_reasonAgainst_70 : decode cX3_reasonAgainst 70 = .ok (.ireturn, 1) := by decide +kernel
theorem dX3_reasonAgainst_71 : decode cX3_reasonAgainst 71 = .ok (.iconst 0, 1) := by decide +kernel
theorem dX3_reasonAgainst_72 : decode cX3_reasonAgainst 72 = .ok (.ireturn, 1) := by decide +kernel
set_option maxRecDepth 20000 in
theorem ggX3_takeOffer_X3_reasonAgainst : GoodIn wsX3_takeOffer wsX3_reasonAgainst := goodIn_r _ [7, 8, 1, 2, 9, 10, 11, 12, 6, 13, 14, 15, 16, 17, 18, 19, 20, 21, 22, 23, 24, 25, 26, 27, 28, 29, 30, 31, 32, 33, 34, 35, 36, 37, 38, 39, 40, 41, 42, 43, 68, 69, 70, 71, 72, 73, 74, 75, 76, 77, 78, 79, 80, 81, 82] (by decide +kernel) (by decide +kernel)
set_option maxRecDepth 20000 in
theorem gX3_takeOffer_X3_reasonAgainst : GoodIn wsX3_takeOffer (wsV RX3 98 RX3 yX3_reasonAgainst wsX3_reasonAgainst) := goodIn_app (goodIn_of _ (by decide +kernel)) ggX3_takeOffer_X3_reasonAgainst
set_option maxRecDepth 20000 in
theorem ggX3_takeOffer_X3_stamp : GoodIn wsX3_takeOffer wsX3_stamp := goodIn_r _ [47, 14, 48, 49, 50, 51, 52, 6, 53, 9, 25, 26, 27, 28, 54, 55, 56, 57, 20, 58, 59, 60, 33, 34, 35, 68, 69, 70, 71, 72, 73, 74, 75, 76, 77, 78, 79, 80, 81, 82] (by decide +kernel) (by decide +kernel)
set_option maxRecDepth 20000 in
theorem gX3_takeOffer_X3_stamp : GoodIn wsX3_takeOffer (wsV RX3 101 RX3 yX3_stamp wsX3_stamp) := goodIn_app (goodIn_of _ (by decide +kernel)) ggX3_takeOffer_X3_stamp
set_option maxRecDepth 20000 in
theorem ggX3_takeOffer_X3_refuse : GoodIn wsX3_takeOffer wsX3_refuse := goodIn_r _ [64, 65, 8, 66, 67, 54, 55, 56, 6, 57, 20, 58, 59, 27, 60, 33, 34, 35, 50, 51, 52, 53, 9, 25, 26, 28, 68, 69, 70, 71, 72, 73, 74, 75, 76, 77, 78, 79, 80, 81, 82] (by decide +kernel) (by decide +kernel)
set_option maxRecDepth 20000 in
theorem gX3_takeOffer_X3_refuse : GoodIn wsX3_takeOffer (wsV RX3 105 RX3 yX3_refuse wsX3_refuse) := goodIn_app (goodIn_of _ (by decide +kernel)) ggX3_takeOffer_X3_refuse
theorem dX3_takeOffer_0 : decode cX3_takeOffer 0 = .ok (.aload_n 0, 1) := by decide +kernel
theorem dX3_takeOffer_1 : decode cX3_takeOffer 1 = .ok (.iload_n 1, 1) := by decide +kernel
theorem dX3_takeOffer_2 : decode cX3_takeOffer 2 = .ok (.iload_n 2, 1) := by decide +kernel
theorem dX3_takeOffer_3 : decode cX3_takeOffer 3 = .ok (.iload_n 3, 1) := by decide +kernel
theorem dX3_takeOffer_4 : decode cX3_takeOffer 4 = .ok (.iload 4, 2) := by decide +kernel
theorem dX3_takeOffer_6 : decode cX3_takeOffer 6 = .ok (.invokevirtual 98, 3) := by decide +kernel
theorem dX3_takeOffer_9 : decode cX3_takeOffer 9 = .ok (.istore 5, 2) := by decide +kernel
theorem dX3_takeOffer_11 : decode cX3_takeOffer 11 = .ok (.iload 5, 2) := by decide +kernel
theorem dX3_takeOffer_13 : decode cX3_takeOffer 13 = .ok (.ifCond .ne 15, 3) := by decide +kernel
theorem dX3_takeOffer_16 : decode cX3_takeOffer 16 = .ok (.aload_n 0, 1) := by decide +kernel
theorem dX3_takeOffer_17 : decode cX3_takeOffer 17 = .ok (.iload_n 1, 1) := by decide +kernel
theorem dX3_takeOffer_18 : decode cX3_takeOffer 18 = .ok (.iload_n 2, 1) := by decide +kernel
theorem dX3_takeOffer_19 : decode cX3_takeOffer 19 = .ok (.iload_n 3, 1) := by decide +kernel
theorem dX3_takeOffer_20 : decode cX3_takeOffer 20 = .ok (.iload 4, 2) := by decide +kernel
theorem dX3_takeOffer_22 : decode cX3_takeOffer 22 = .ok (.invokevirtual 101, 3) := by decide +kernel
theorem dX3_takeOffer_25 : decode cX3_takeOffer 25 = .ok (.goto 13, 3) := by decide +kernel
theorem dX3_takeOffer_28 : decode cX3_takeOffer 28 = .ok (.aload_n 0, 1) := by decide +kernel
theorem dX3_takeOffer_29 : decode cX3_takeOffer 29 = .ok (.iload_n 1, 1) := by decide +kernel
theorem dX3_takeOffer_30 : decode cX3_takeOffer 30 = .ok (.iload_n 3, 1) := by decide +kernel
theorem dX3_takeOffer_31 : decode cX3_takeOffer 31 = .ok (.iload 4, 2) := by decide +kernel
theorem dX3_takeOffer_33 : decode cX3_takeOffer 33 = .ok (.iload 5, 2) := by decide +kernel
theorem dX3_takeOffer_35 : decode cX3_takeOffer 35 = .ok (.invokevirtual 105, 3) := by decide +kernel
theorem dX3_takeOffer_38 : decode cX3_takeOffer 38 = .ok (.aload_n 0, 1) := by decide +kernel
theorem dX3_takeOffer_39 : decode cX3_takeOffer 39 = .ok (.getfield 49, 3) := by decide +kernel
theorem dX3_takeOffer_42 : decode cX3_takeOffer 42 = .ok (.iload_n 1, 1) := by decide +kernel
theorem dX3_takeOffer_43 : decode cX3_takeOffer 43 = .ok (.aload_n 0, 1) := by decide +kernel
theorem dX3_takeOffer_44 : decode cX3_takeOffer 44 = .ok (.getfield 22, 3) := by decide +kernel
theorem dX3_takeOffer_47 : decode cX3_takeOffer 47 = .ok (.iload_n 2, 1) := by decide +kernel
theorem dX3_takeOffer_48 : decode cX3_takeOffer 48 = .ok (.iaload, 1) := by decide +kernel
theorem dX3_takeOffer_49 : decode cX3_takeOffer 49 = .ok (.iastore, 1) := by decide +kernel
theorem dX3_takeOffer_50 : decode cX3_takeOffer 50 = .ok (.iload 5, 2) := by decide +kernel
theorem dX3_takeOffer_52 : decode cX3_takeOffer 52 = .ok (.ireturn, 1) := by decide +kernel
set_option maxRecDepth 20000 in
theorem ggX3_stamp_X3_takeCredit : GoodIn wsX3_stamp wsX3_takeCredit := goodIn_r _ [8, 9, 10, 11, 12, 13, 25, 26, 27, 28, 29, 30, 31, 32, 33, 34, 35, 36, 37, 38, 39] (by decide +kernel) (by decide +kernel)
set_option maxRecDepth 20000 in
theorem gX3_stamp_X3_takeCredit : GoodIn wsX3_stamp (wsV RX3 108 RX3 yX3_takeCredit wsX3_takeCredit) := goodIn_app (goodIn_of _ (by decide +kernel)) ggX3_stamp_X3_takeCredit
set_option maxRecDepth 20000 in
theorem ggX3_stamp_X3_angerMasterOf : GoodIn wsX3_stamp wsX3_angerMasterOf := goodIn_r _ [17, 18, 19, 20, 12, 21, 22, 23, 24, 25, 26, 27, 28, 29, 30, 31, 32, 33, 34, 35, 36, 37, 38, 39] (by decide +kernel) (by decide +kernel)
set_option maxRecDepth 20000 in
theorem gX3_stamp_X3_angerMasterOf : GoodIn wsX3_stamp (wsV RX3 112 RX3 yX3_angerMasterOf wsX3_angerMasterOf) := goodIn_app (goodIn_of _ (by decide +kernel)) ggX3_stamp_X3_angerMasterOf
theorem dX3_stamp_0 : decode cX3_stamp 0 = .ok (.aload_n 0, 1) := by decide +kernel
theorem dX3_stamp_1 : decode cX3_stamp 1 = .ok (.getfield 31, 3) := by decide +kernel
theorem dX3_stamp_4 : decode cX3_stamp 4 = .ok (.iload_n 1, 1) := by decide +kernel
theorem dX3_stamp_5 : decode cX3_stamp 5 = .ok (.bipush 12, 2) := by decide +kernel
theorem dX3_stamp_7 : decode cX3_stamp 7 = .ok (.imul, 1) := by decide +kernel
theorem dX3_stamp_8 : decode cX3_stamp 8 = .ok (.iload_n 2, 1) := by decide +kernel
theorem dX3_stamp_9 : decode cX3_stamp 9 = .ok (.iadd, 1) := by decide +kernel
theorem dX3_stamp_10 : decode cX3_stamp 10 = .ok (.dup2, 1) := by decide +kernel
theorem dX3_stamp_11 : decode cX3_stamp 11 = .ok (.iaload, 1) := by decide +kernel
theorem dX3_stamp_12 : decode cX3_stamp 12 = .ok (.iconst 1, 1) := by decide +kernel
theorem dX3_stamp_13 : decode cX3_stamp 13 = .ok (.iadd, 1) := by decide +kernel
theorem dX3_stamp_14 : decode cX3_stamp 14 = .ok (.iastore, 1) := by decide +kernel
theorem dX3_stamp_15 : decode cX3_stamp 15 = .ok (.aload_n 0, 1) := by decide +kernel
theorem dX3_stamp_16 : decode cX3_stamp 16 = .ok (.getfield 28, 3) := by decide +kernel
theorem dX3_stamp_19 : decode cX3_stamp 19 = .ok (.iload_n 2, 1) := by decide +kernel
theorem dX3_stamp_20 : decode cX3_stamp 20 = .ok (.dup2, 1) := by decide +kernel
theorem dX3_stamp_21 : decode cX3_stamp 21 = .ok (.iaload, 1) := by decide +kernel
theorem dX3_stamp_22 : decode cX3_stamp 22 = .ok (.iconst 1, 1) := by decide +kernel
theorem dX3_stamp_23 : decode cX3_stamp 23 = .ok (.iadd, 1) := by decide +kernel
theorem dX3_stamp_24 : decode cX3_stamp 24 = .ok (.iastore, 1) := by decide +kernel
theorem dX3_stamp_25 : decode cX3_stamp 25 = .ok (.aload_n 0, 1) := by decide +kernel
theorem dX3_stamp_26 : decode cX3_stamp 26 = .ok (.getfield 43, 3) := by decide +kernel
theorem dX3_stamp_29 : decode cX3_stamp 29 = .ok (.iload_n 1, 1) := by decide +kernel
theorem dX3_stamp_30 : decode cX3_stamp 30 = .ok (.dup2, 1) := by decide +kernel
theorem dX3_stamp_31 : decode cX3_stamp 31 = .ok (.iaload, 1) := by decide +kernel
theorem dX3_stamp_32 : decode cX3_stamp 32 = .ok (.iconst 1, 1) := by decide +kernel
theorem dX3_stamp_33 : decode cX3_stamp 33 = .ok (.iadd, 1) := by decide +kernel
theorem dX3_stamp_34 : decode cX3_stamp 34 = .ok (.iastore, 1) := by decide +kernel
theorem dX3_stamp_35 : decode cX3_stamp 35 = .ok (.aload_n 0, 1) := by decide +kernel
theorem dX3_stamp_36 : decode cX3_stamp 36 = .ok (.iload_n 3, 1) := by decide +kernel
theorem dX3_stamp_37 : decode cX3_stamp 37 = .ok (.iconst 1, 1) := by decide +kernel
theorem dX3_stamp_38 : decode cX3_stamp 38 = .ok (.invokevirtual 108, 3) := by decide +kernel
theorem dX3_stamp_41 : decode cX3_stamp 41 = .ok (.iload 4, 2) := by decide +kernel
theorem dX3_stamp_43 : decode cX3_stamp 43 = .ok (.bipush 30, 2) := by decide +kernel
theorem dX3_stamp_45 : decode cX3_stamp 45 = .ok (.if_icmp .le 8, 3) := by decide +kernel
theorem dX3_stamp_48 : decode cX3_stamp 48 = .ok (.aload_n 0, 1) := by decide +kernel
theorem dX3_stamp_49 : decode cX3_stamp 49 = .ok (.iload_n 1, 1) := by decide +kernel
theorem dX3_stamp_50 : decode cX3_stamp 50 = .ok (.invokevirtual 112, 3) := by decide +kernel
theorem dX3_stamp_53 : decode cX3_stamp 53 = .ok (.return_, 1) := by decide +kernel
set_option maxRecDepth 20000 in
theorem ggX3_refuse_X3_angerMasterOf : GoodIn wsX3_refuse wsX3_angerMasterOf := goodIn_r _ [9, 10, 11, 12, 13, 14, 15, 16, 17, 26, 27, 28, 29, 30, 31, 32, 33, 34, 35, 36, 37, 38, 39, 40] (by decide +kernel) (by decide +kernel)
set_option maxRecDepth 20000 in
theorem gX3_refuse_X3_angerMasterOf : GoodIn wsX3_refuse (wsV RX3 112 RX3 yX3_angerMasterOf wsX3_angerMasterOf) := goodIn_app (goodIn_of _ (by decide +kernel)) ggX3_refuse_X3_angerMasterOf
set_option maxRecDepth 20000 in
theorem ggX3_refuse_X3_takeCredit : GoodIn wsX3_refuse wsX3_takeCredit := goodIn_r _ [21, 22, 23, 24, 13, 25, 26, 27, 28, 29, 30, 31, 32, 33, 34, 35, 36, 37, 38, 39, 40] (by decide +kernel) (by decide +kernel)
set_option maxRecDepth 20000 in
theorem gX3_refuse_X3_takeCredit : GoodIn wsX3_refuse (wsV RX3 108 RX3 yX3_takeCredit wsX3_takeCredit) := goodIn_app (goodIn_of _ (by decide +kernel)) ggX3_refuse_X3_takeCredit
theorem dX3_refuse_0 : decode cX3_refuse 0 = .ok (.aload_n 0, 1) := by decide +kernel
theorem dX3_refuse_1 : decode cX3_refuse 1 = .ok (.getfield 37, 3) := by decide +kernel
theorem dX3_refuse_4 : decode cX3_refuse 4 = .ok (.iload_n 1, 1) := by decide +kernel
theorem dX3_refuse_5 : decode cX3_refuse 5 = .ok (.dup2, 1) := by decide +kernel
theorem dX3_refuse_6 : decode cX3_refuse 6 = .ok (.iaload, 1) := by decide +kernel
theorem dX3_refuse_7 : decode cX3_refuse 7 = .ok (.aload_n 0, 1) := by decide +kernel
theorem dX3_refuse_8 : decode cX3_refuse 8 = .ok (.getfield 13, 3) := by decide +kernel
theorem dX3_refuse_11 : decode cX3_refuse 11 = .ok (.iconst 3, 1) := by decide +kernel
theorem dX3_refuse_12 : decode cX3_refuse 12 = .ok (.iaload, 1) := by decide +kernel
theorem dX3_refuse_13 : decode cX3_refuse 13 = .ok (.iload_n 3, 1) := by decide +kernel
theorem dX3_refuse_14 : decode cX3_refuse 14 = .ok (.imul, 1) := by decide +kernel
theorem dX3_refuse_15 : decode cX3_refuse 15 = .ok (.iadd, 1) := by decide +kernel
theorem dX3_refuse_16 : decode cX3_refuse 16 = .ok (.iastore, 1) := by decide +kernel
theorem dX3_refuse_17 : decode cX3_refuse 17 = .ok (.aload_n 0, 1) := by decide +kernel
theorem dX3_refuse_18 : decode cX3_refuse 18 = .ok (.getfield 46, 3) := by decide +kernel
theorem dX3_refuse_21 : decode cX3_refuse 21 = .ok (.iload_n 1, 1) := by decide +kernel
theorem dX3_refuse_22 : decode cX3_refuse 22 = .ok (.dup2, 1) := by decide +kernel
theorem dX3_refuse_23 : decode cX3_refuse 23 = .ok (.iaload, 1) := by decide +kernel
theorem dX3_refuse_24 : decode cX3_refuse 24 = .ok (.iconst 1, 1) := by decide +kernel
theorem dX3_refuse_25 : decode cX3_refuse 25 = .ok (.iadd, 1) := by decide +kernel
theorem dX3_refuse_26 : decode cX3_refuse 26 = .ok (.iastore, 1) := by decide +kernel
theorem dX3_refuse_27 : decode cX3_refuse 27 = .ok (.aload_n 0, 1) := by decide +kernel
theorem dX3_refuse_28 : decode cX3_refuse 28 = .ok (.getfield 55, 3) := by decide +kernel
theorem dX3_refuse_31 : decode cX3_refuse 31 = .ok (.iload 4, 2) := by decide +kernel
theorem dX3_refuse_33 : decode cX3_refuse 33 = .ok (.dup2, 1) := by decide +kernel
theorem dX3_refuse_34 : decode cX3_refuse 34 = .ok (.iaload, 1) := by decide +kernel
theorem dX3_refuse_35 : decode cX3_refuse 35 = .ok (.iconst 1, 1) := by decide +kernel
theorem dX3_refuse_36 : decode cX3_refuse 36 = .ok (.iadd, 1) := by decide +kernel
theorem dX3_refuse_37 : decode cX3_refuse 37 = .ok (.iastore, 1) := by decide +kernel
theorem dX3_refuse_38 : decode cX3_refuse 38 = .ok (.aload_n 0, 1) := by decide +kernel
theorem dX3_refuse_39 : decode cX3_refuse 39 = .ok (.iload_n 1, 1) := by decide +kernel
theorem dX3_refuse_40 : decode cX3_refuse 40 = .ok (.invokevirtual 112, 3) := by decide +kernel
theorem dX3_refuse_43 : decode cX3_refuse 43 = .ok (.iload 4, 2) := by decide +kernel
theorem dX3_refuse_45 : decode cX3_refuse 45 = .ok (.iconst 4, 1) := by decide +kernel
theorem dX3_refuse_46 : decode cX3_refuse 46 = .ok (.if_icmp .ne 9, 3) := by decide +kernel
theorem dX3_refuse_49 : decode cX3_refuse 49 = .ok (.aload_n 0, 1) := by decide +kernel
theorem dX3_refuse_50 : decode cX3_refuse 50 = .ok (.iload_n 2, 1) := by decide +kernel
theorem dX3_refuse_51 : decode cX3_refuse 51 = .ok (.iconst 2, 1) := by decide +kernel
theorem dX3_refuse_52 : decode cX3_refuse 52 = .ok (.invokevirtual 108, 3) := by decide +kernel
theorem dX3_refuse_55 : decode cX3_refuse 55 = .ok (.return_, 1) := by decide +kernel
theorem dX3_takeCredit_0 : decode cX3_takeCredit 0 = .ok (.iload_n 1, 1) := by decide +kernel
theorem dX3_takeCredit_1 : decode cX3_takeCredit 1 = .ok (.bipush (-6), 2) := by decide +kernel
theorem dX3_takeCredit_3 : decode cX3_takeCredit 3 = .ok (.if_icmp .eq 21, 3) := by decide +kernel
theorem dX3_takeCredit_6 : decode cX3_takeCredit 6 = .ok (.aload_n 0, 1) := by decide +kernel
theorem dX3_takeCredit_7 : decode cX3_takeCredit 7 = .ok (.getfield 34, 3) := by decide +kernel
theorem dX3_takeCredit_10 : decode cX3_takeCredit 10 = .ok (.iload_n 1, 1) := by decide +kernel
theorem dX3_takeCredit_11 : decode cX3_takeCredit 11 = .ok (.iconst 0, 1) := by decide +kernel
theorem dX3_takeCredit_12 : decode cX3_takeCredit 12 = .ok (.aload_n 0, 1) := by decide +kernel
theorem dX3_takeCredit_13 : decode cX3_takeCredit 13 = .ok (.getfield 34, 3) := by decide +kernel
theorem dX3_takeCredit_16 : decode cX3_takeCredit 16 = .ok (.iload_n 1, 1) := by decide +kernel
theorem dX3_takeCredit_17 : decode cX3_takeCredit 17 = .ok (.iaload, 1) := by decide +kernel
theorem dX3_takeCredit_18 : decode cX3_takeCredit 18 = .ok (.iload_n 2, 1) := by decide +kernel
theorem dX3_takeCredit_19 : decode cX3_takeCredit 19 = .ok (.isub, 1) := by decide +kernel
theorem dX3_takeCredit_20 : decode cX3_takeCredit 20 = .ok (.invokestatic 79, 3) := by decide +kernel
theorem dX3_takeCredit_23 : decode cX3_takeCredit 23 = .ok (.iastore, 1) := by decide +kernel
theorem dX3_takeCredit_24 : decode cX3_takeCredit 24 = .ok (.return_, 1) := by decide +kernel
set_option maxRecDepth 20000 in
theorem ggX3_angerMasterOf_X4_classOf : GoodIn wsX3_angerMasterOf wsX4_classOf := goodIn_r _ [8] (by decide +kernel) (by decide +kernel)
set_option maxRecDepth 20000 in
theorem gX3_angerMasterOf_X4_classOf_n73 : GoodIn wsX3_angerMasterOf (wsX4_classOf) := ggX3_angerMasterOf_X4_classOf
theorem dX3_angerMasterOf_0 : decode cX3_angerMasterOf 0 = .ok (.iload_n 1, 1) := by decide +kernel
theorem dX3_angerMasterOf_1 : decode cX3_angerMasterOf 1 = .ok (.invokestatic 73, 3) := by decide +kernel
theorem dX3_angerMasterOf_4 : decode cX3_angerMasterOf 4 = .ok (.istore_n 2, 1) := by decide +kernel
theorem dX3_angerMasterOf_5 : decode cX3_angerMasterOf 5 = .ok (.aload_n 0, 1) := by decide +kernel
theorem dX3_angerMasterOf_6 : decode cX3_angerMasterOf 6 = .ok (.getfield 52, 3) := by decide +kernel
theorem dX3_angerMasterOf_9 : decode cX3_angerMasterOf 9 = .ok (.iload_n 2, 1) := by decide +kernel
theorem dX3_angerMasterOf_10 : decode cX3_angerMasterOf 10 = .ok (.bipush 9, 2) := by decide +kernel
theorem dX3_angerMasterOf_12 : decode cX3_angerMasterOf 12 = .ok (.aload_n 0, 1) := by decide +kernel
theorem dX3_angerMasterOf_13 : decode cX3_angerMasterOf 13 = .ok (.getfield 52, 3) := by decide +kernel
theorem dX3_angerMasterOf_16 : decode cX3_angerMasterOf 16 = .ok (.iload_n 2, 1) := by decide +kernel
theorem dX3_angerMasterOf_17 : decode cX3_angerMasterOf 17 = .ok (.iaload, 1) := by decide +kernel
theorem dX3_angerMasterOf_18 : decode cX3_angerMasterOf 18 = .ok (.iconst 1, 1) := by decide +kernel
theorem dX3_angerMasterOf_19 : decode cX3_angerMasterOf 19 = .ok (.iadd, 1) := by decide +kernel
theorem dX3_angerMasterOf_20 : decode cX3_angerMasterOf 20 = .ok (.invokestatic 116, 3) := by decide +kernel
theorem dX3_angerMasterOf_23 : decode cX3_angerMasterOf 23 = .ok (.iastore, 1) := by decide +kernel
theorem dX3_angerMasterOf_24 : decode cX3_angerMasterOf 24 = .ok (.return_, 1) := by decide +kernel
theorem dX3_beginNextTerm_0 : decode cX3_beginNextTerm 0 = .ok (.iconst 0, 1) := by decide +kernel
theorem dX3_beginNextTerm_1 : decode cX3_beginNextTerm 1 = .ok (.istore_n 1, 1) := by decide +kernel
theorem dX3_beginNextTerm_2 : decode cX3_beginNextTerm 2 = .ok (.iload_n 1, 1) := by decide +kernel
theorem dX3_beginNextTerm_3 : decode cX3_beginNextTerm 3 = .ok (.aload_n 0, 1) := by decide +kernel
theorem dX3_beginNextTerm_4 : decode cX3_beginNextTerm 4 = .ok (.getfield 31, 3) := by decide +kernel
theorem dX3_beginNextTerm_7 : decode cX3_beginNextTerm 7 = .ok (.arraylength, 1) := by decide +kernel
theorem dX3_beginNextTerm_8 : decode cX3_beginNextTerm 8 = .ok (.if_icmp .ge 16, 3) := by decide +kernel
theorem dX3_beginNextTerm_11 : decode cX3_beginNextTerm 11 = .ok (.aload_n 0, 1) := by decide +kernel
theorem dX3_beginNextTerm_12 : decode cX3_beginNextTerm 12 = .ok (.getfield 31, 3) := by decide +kernel
theorem dX3_beginNextTerm_15 : decode cX3_beginNextTerm 15 = .ok (.iload_n 1, 1) := by decide +kernel
theorem dX3_beginNextTerm_16 : decode cX3_beginNextTerm 16 = .ok (.iconst 0, 1) := by decide +kernel
theorem dX3_beginNextTerm_17 : decode cX3_beginNextTerm 17 = .ok (.iastore, 1) := by decide +kernel
theorem dX3_beginNextTerm_18 : decode cX3_beginNextTerm 18 = .ok (.iinc 1 1, 3) := by decide +kernel
theorem dX3_beginNextTerm_21 : decode cX3_beginNextTerm 21 = .ok (.goto (-19), 3) := by decide +kernel
theorem dX3_beginNextTerm_24 : decode cX3_beginNextTerm 24 = .ok (.iconst 0, 1) := by decide +kernel
theorem dX3_beginNextTerm_25 : decode cX3_beginNextTerm 25 = .ok (.istore_n 1, 1) := by decide +kernel
theorem dX3_beginNextTerm_26 : decode cX3_beginNextTerm 26 = .ok (.iload_n 1, 1) := by decide +kernel
theorem dX3_beginNextTerm_27 : decode cX3_beginNextTerm 27 = .ok (.bipush 10, 2) := by decide +kernel
theorem dX3_beginNextTerm_29 : decode cX3_beginNextTerm 29 = .ok (.if_icmp .ge 36, 3) := by decide +kernel
theorem dX3_beginNextTerm_32 : decode cX3_beginNextTerm 32 = .ok (.aload_n 0, 1) := by decide +kernel
theorem dX3_beginNextTerm_33 : decode cX3_beginNextTerm 33 = .ok (.getfield 49, 3) := by decide +kernel
theorem dX3_beginNextTerm_36 : decode cX3_beginNextTerm 36 = .ok (.iload_n 1, 1) := by decide +kernel
theorem dX3_beginNextTerm_37 : decode cX3_beginNextTerm 37 = .ok (.bipush (-6), 2) := by decide +kernel
theorem dX3_beginNextTerm_39 : decode cX3_beginNextTerm 39 = .ok (.iastore, 1) := by decide +kernel
theorem dX3_beginNextTerm_40 : decode cX3_beginNextTerm 40 = .ok (.aload_n 0, 1) := by decide +kernel
theorem dX3_beginNextTerm_41 : decode cX3_beginNextTerm 41 = .ok (.getfield 34, 3) := by decide +kernel
theorem dX3_beginNextTerm_44 : decode cX3_beginNextTerm 44 = .ok (.iload_n 1, 1) := by decide +kernel
theorem dX3_beginNextTerm_45 : decode cX3_beginNextTerm 45 = .ok (.bipush 9, 2) := by decide +kernel
theorem dX3_beginNextTerm_47 : decode cX3_beginNextTerm 47 = .ok (.aload_n 0, 1) := by decide +kernel
theorem dX3_beginNextTerm_48 : decode cX3_beginNextTerm 48 = .ok (.getfield 34, 3) := by decide +kernel
theorem dX3_beginNextTerm_51 : decode cX3_beginNextTerm 51 = .ok (.iload_n 1, 1) := by decide +kernel
theorem dX3_beginNextTerm_52 : decode cX3_beginNextTerm 52 = .ok (.iaload, 1) := by decide +kernel
theorem dX3_beginNextTerm_53 : decode cX3_beginNextTerm 53 = .ok (.iconst 2, 1) := by decide +kernel
theorem dX3_beginNextTerm_54 : decode cX3_beginNextTerm 54 = .ok (.iadd, 1) := by decide +kernel
theorem dX3_beginNextTerm_55 : decode cX3_beginNextTerm 55 = .ok (.invokestatic 116, 3) := by decide +kernel
theorem dX3_beginNextTerm_58 : decode cX3_beginNextTerm 58 = .ok (.iastore, 1) := by decide +kernel
theorem dX3_beginNextTerm_59 : decode cX3_beginNextTerm 59 = .ok (.iinc 1 1, 3) := by decide +kernel
theorem dX3_beginNextTerm_62 : decode cX3_beginNextTerm 62 = .ok (.goto (-36), 3) := by decide +kernel
theorem dX3_beginNextTerm_65 : decode cX3_beginNextTerm 65 = .ok (.iconst 0, 1) := by decide +kernel
theorem dX3_beginNextTerm_66 : decode cX3_beginNextTerm 66 = .ok (.istore_n 1, 1) := by decide +kernel
theorem dX3_beginNextTerm_67 : decode cX3_beginNextTerm 67 = .ok (.iload_n 1, 1) := by decide +kernel
theorem dX3_beginNextTerm_68 : decode cX3_beginNextTerm 68 = .ok (.iconst 5, 1) := by decide +kernel
theorem dX3_beginNextTerm_69 : decode cX3_beginNextTerm 69 = .ok (.if_icmp .ge 23, 3) := by decide +kernel
theorem dX3_beginNextTerm_72 : decode cX3_beginNextTerm 72 = .ok (.aload_n 0, 1) := by decide +kernel
theorem dX3_beginNextTerm_73 : decode cX3_beginNextTerm 73 = .ok (.getfield 52, 3) := by decide +kernel
theorem dX3_beginNextTerm_76 : decode cX3_beginNextTerm 76 = .ok (.iload_n 1, 1) := by decide +kernel
theorem dX3_beginNextTerm_77 : decode cX3_beginNextTerm 77 = .ok (.aload_n 0, 1) := by decide +kernel
theorem dX3_beginNextTerm_78 : decode cX3_beginNextTerm 78 = .ok (.getfield 52, 3) := by decide +kernel
theorem dX3_beginNextTerm_81 : decode cX3_beginNextTerm 81 = .ok (.iload_n 1, 1) := by decide +kernel
theorem dX3_beginNextTerm_82 : decode cX3_beginNextTerm 82 = .ok (.iaload, 1) := by decide +kernel
theorem dX3_beginNextTerm_83 : decode cX3_beginNextTerm 83 = .ok (.iconst 2, 1) := by decide +kernel
theorem dX3_beginNextTerm_84 : decode cX3_beginNextTerm 84 = .ok (.idiv, 1) := by decide +kernel
theorem dX3_beginNextTerm_85 : decode cX3_beginNextTerm 85 = .ok (.iastore, 1) := by decide +kernel
theorem dX3_beginNextTerm_86 : decode cX3_beginNextTerm 86 = .ok (.iinc 1 1, 3) := by decide +kernel
theorem dX3_beginNextTerm_89 : decode cX3_beginNextTerm 89 = .ok (.goto (-22), 3) := by decide +kernel
theorem dX3_beginNextTerm_92 : decode cX3_beginNextTerm 92 = .ok (.aload_n 0, 1) := by decide +kernel
theorem dX3_beginNextTerm_93 : decode cX3_beginNextTerm 93 = .ok (.dup, 1) := by decide +kernel
theorem dX3_beginNextTerm_94 : decode cX3_beginNextTerm 94 = .ok (.getfield 58, 3) := by decide +kernel
theorem dX3_beginNextTerm_97 : decode cX3_beginNextTerm 97 = .ok (.iconst 1, 1) := by decide +kernel
theorem dX3_beginNextTerm_98 : decode cX3_beginNextTerm 98 = .ok (.iadd, 1) := by decide +kernel
theorem dX3_beginNextTerm_99 : decode cX3_beginNextTerm 99 = .ok (.putfield 58, 3) := by decide +kernel
theorem dX3_beginNextTerm_102 : decode cX3_beginNextTerm 102 = .ok (.return_, 1) := by decide +kernel
end
section
theorem inlX4 : ∀ w ∈ wsX40, w ∈ wsL_law := fun _ h => List.mem_append_left _ (List.mem_append_left _ (List.mem_append_left _ (List.mem_append_left _ (List.mem_append_left _ (List.mem_append_left _ (List.mem_append_right _ h))))))
set_option maxRecDepth 20000 in
theorem ggX4_init_X3_init : GoodIn wsX4_init wsX3_init := goodIn_r _ [25, 26, 2, 3, 27, 28, 29, 30, 31, 32, 33, 34, 35, 36, 37, 38, 39, 40, 41, 42, 43, 44, 45, 46, 47, 48, 49, 50, 51, 52, 53, 77, 78, 79, 80, 81, 82, 83, 84, 85, 86, 87, 88, 89, 90, 91] (by decide +kernel) (by decide +kernel)
set_option maxRecDepth 20000 in
theorem gX4_init_X3_init : GoodIn wsX4_init (wsX3_init) := ggX4_init_X3_init
set_option maxRecDepth 20000 in
theorem ggX4_init_X0_init : GoodIn wsX4_init wsX0_init := goodIn_r _ [56, 57, 2, 3, 58, 59, 60, 61, 5, 6, 62, 24, 25, 26, 27, 28, 29, 30, 31, 32, 33, 34, 35, 36, 37, 38, 39, 40, 41, 42, 43, 44, 45, 46, 47, 48, 49, 50, 51, 52, 53, 98, 99, 100, 77, 78, 79, 80, 81, 82, 83, 84, 85, 86, 87, 88, 89, 90, 91] (by decide +kernel) (by decide +kernel)
set_option maxRecDepth 20000 in
theorem gX4_init_X0_init : GoodIn wsX4_init (wsX0_init) := ggX4_init_X0_init
set_option maxRecDepth 20000 in
theorem ggX4_init_X1_init : GoodIn wsX4_init wsX1_init := goodIn_r _ [64, 65, 2, 3, 66, 67, 68, 101, 102] (by decide +kernel) (by decide +kernel)
set_option maxRecDepth 20000 in
theorem gX4_init_X1_init_n33 : GoodIn wsX4_init (wsX1_init) := ggX4_init_X1_init
set_option maxRecDepth 20000 in
theorem ggX4_init_X2_init : GoodIn wsX4_init wsX2_init := goodIn_r _ [70, 71, 2, 3, 72, 73, 74, 75, 76, 103, 104, 105, 106, 107] (by decide +kernel) (by decide +kernel)
set_option maxRecDepth 20000 in
theorem gX4_init_X2_init_n40 : GoodIn wsX4_init (wsX2_init) := ggX4_init_X2_init
theorem dX4_init_0 : decode cX4_init 0 = .ok (.aload_n 0, 1) := by decide +kernel
theorem dX4_init_1 : decode cX4_init 1 = .ok (.invokespecial 1, 3) := by decide +kernel
theorem dX4_init_4 : decode cX4_init 4 = .ok (.aload_n 0, 1) := by decide +kernel
theorem dX4_init_5 : decode cX4_init 5 = .ok (.new 7, 3) := by decide +kernel
theorem dX4_init_8 : decode cX4_init 8 = .ok (.dup, 1) := by decide +kernel
theorem dX4_init_9 : decode cX4_init 9 = .ok (.invokespecial 9, 3) := by decide +kernel
theorem dX4_init_12 : decode cX4_init 12 = .ok (.putfield 10, 3) := by decide +kernel
theorem dX4_init_15 : decode cX4_init 15 = .ok (.aload_n 0, 1) := by decide +kernel
theorem dX4_init_16 : decode cX4_init 16 = .ok (.new 16, 3) := by decide +kernel
theorem dX4_init_19 : decode cX4_init 19 = .ok (.dup, 1) := by decide +kernel
theorem dX4_init_20 : decode cX4_init 20 = .ok (.invokespecial 18, 3) := by decide +kernel
theorem dX4_init_23 : decode cX4_init 23 = .ok (.putfield 19, 3) := by decide +kernel
theorem dX4_init_26 : decode cX4_init 26 = .ok (.aload_n 0, 1) := by decide +kernel
theorem dX4_init_27 : decode cX4_init 27 = .ok (.iconst 2, 1) := by decide +kernel
theorem dX4_init_28 : decode cX4_init 28 = .ok (.anewarray 7, 3) := by decide +kernel
theorem dX4_init_31 : decode cX4_init 31 = .ok (.putfield 23, 3) := by decide +kernel
theorem dX4_init_34 : decode cX4_init 34 = .ok (.iconst 0, 1) := by decide +kernel
theorem dX4_init_35 : decode cX4_init 35 = .ok (.istore_n 1, 1) := by decide +kernel
theorem dX4_init_36 : decode cX4_init 36 = .ok (.iload_n 1, 1) := by decide +kernel
theorem dX4_init_37 : decode cX4_init 37 = .ok (.iconst 2, 1) := by decide +kernel
theorem dX4_init_38 : decode cX4_init 38 = .ok (.if_icmp .ge 22, 3) := by decide +kernel
theorem dX4_init_41 : decode cX4_init 41 = .ok (.aload_n 0, 1) := by decide +kernel
theorem dX4_init_42 : decode cX4_init 42 = .ok (.getfield 23, 3) := by decide +kernel
theorem dX4_init_45 : decode cX4_init 45 = .ok (.iload_n 1, 1) := by decide +kernel
theorem dX4_init_46 : decode cX4_init 46 = .ok (.new 7, 3) := by decide +kernel
theorem dX4_init_49 : decode cX4_init 49 = .ok (.dup, 1) := by decide +kernel
theorem dX4_init_50 : decode cX4_init 50 = .ok (.invokespecial 9, 3) := by decide +kernel
theorem dX4_init_53 : decode cX4_init 53 = .ok (.aastore, 1) := by decide +kernel
theorem dX4_init_54 : decode cX4_init 54 = .ok (.iinc 1 1, 3) := by decide +kernel
theorem dX4_init_57 : decode cX4_init 57 = .ok (.goto (-21), 3) := by decide +kernel
theorem dX4_init_60 : decode cX4_init 60 = .ok (.aload_n 0, 1) := by decide +kernel
theorem dX4_init_61 : decode cX4_init 61 = .ok (.iconst 2, 1) := by decide +kernel
theorem dX4_init_62 : decode cX4_init 62 = .ok (.newarray .boolean, 2) := by decide +kernel
theorem dX4_init_64 : decode cX4_init 64 = .ok (.putfield 27, 3) := by decide +kernel
theorem dX4_init_67 : decode cX4_init 67 = .ok (.aload_n 0, 1) := by decide +kernel
theorem dX4_init_68 : decode cX4_init 68 = .ok (.new 31, 3) := by decide +kernel
theorem dX4_init_71 : decode cX4_init 71 = .ok (.dup, 1) := by decide +kernel
theorem dX4_init_72 : decode cX4_init 72 = .ok (.invokespecial 33, 3) := by decide +kernel
theorem dX4_init_75 : decode cX4_init 75 = .ok (.putfield 34, 3) := by decide +kernel
theorem dX4_init_78 : decode cX4_init 78 = .ok (.aload_n 0, 1) := by decide +kernel
theorem dX4_init_79 : decode cX4_init 79 = .ok (.new 38, 3) := by decide +kernel
theorem dX4_init_82 : decode cX4_init 82 = .ok (.dup, 1) := by decide +kernel
theorem dX4_init_83 : decode cX4_init 83 = .ok (.invokespecial 40, 3) := by decide +kernel
theorem dX4_init_86 : decode cX4_init 86 = .ok (.putfield 41, 3) := by decide +kernel
theorem dX4_init_89 : decode cX4_init 89 = .ok (.return_, 1) := by decide +kernel
set_option maxRecDepth 20000 in
theorem ggX4_set_X4_isWithin : GoodIn wsX4_set wsX4_isWithin := goodIn_r _ [10] (by decide +kernel) (by decide +kernel)
set_option maxRecDepth 20000 in
theorem gX4_set_X4_isWithin : GoodIn wsX4_set (va_wsS RX4 49 yX4_isWithin wsX4_isWithin) := goodIn_app (goodIn_of _ (by decide +kernel)) ggX4_set_X4_isWithin
set_option maxRecDepth 20000 in
theorem ggX4_set_X0_keep : GoodIn wsX4_set wsX0_keep := goodIn_r _ [15, 16, 17, 18, 19, 20, 21, 22, 23, 24, 25, 26, 27, 28, 29, 30, 31, 32, 33, 34, 35, 36, 37, 38, 39, 40, 41, 42, 43, 9, 44, 45, 46, 47, 48, 49, 71, 72, 73, 56, 57, 58, 59, 60, 61, 62, 63, 64, 65, 66, 67, 68, 69, 70] (by decide +kernel) (by decide +kernel)
set_option maxRecDepth 20000 in
theorem gX4_set_X0_keep : GoodIn wsX4_set (wsV RX4 59 RX0 yX0_keep wsX0_keep) := goodIn_app (goodIn_of _ (by decide +kernel)) ggX4_set_X0_keep
theorem dX4_set_0 : decode cX4_set 0 = .ok (.iload_n 1, 1) := by decide +kernel
theorem dX4_set_1 : decode cX4_set 1 = .ok (.iconst 0, 1) := by decide +kernel
theorem dX4_set_2 : decode cX4_set 2 = .ok (.getstatic 45, 3) := by decide +kernel
theorem dX4_set_5 : decode cX4_set 5 = .ok (.arraylength, 1) := by decide +kernel
theorem dX4_set_6 : decode cX4_set 6 = .ok (.iconst 1, 1) := by decide +kernel
theorem dX4_set_7 : decode cX4_set 7 = .ok (.isub, 1) := by decide +kernel
theorem dX4_set_8 : decode cX4_set 8 = .ok (.invokestatic 49, 3) := by decide +kernel
theorem dX4_set_11 : decode cX4_set 11 = .ok (.ifCond .ne 6, 3) := by decide +kernel
theorem dX4_set_14 : decode cX4_set 14 = .ok (.bipush (-2), 2) := by decide +kernel
theorem dX4_set_16 : decode cX4_set 16 = .ok (.ireturn, 1) := by decide +kernel
theorem dX4_set_17 : decode cX4_set 17 = .ok (.iload_n 2, 1) := by decide +kernel
theorem dX4_set_18 : decode cX4_set 18 = .ok (.getstatic 53, 3) := by decide +kernel
theorem dX4_set_21 : decode cX4_set 21 = .ok (.iload_n 1, 1) := by decide +kernel
theorem dX4_set_22 : decode cX4_set 22 = .ok (.iaload, 1) := by decide +kernel
theorem dX4_set_23 : decode cX4_set 23 = .ok (.getstatic 56, 3) := by decide +kernel
theorem dX4_set_26 : decode cX4_set 26 = .ok (.iload_n 1, 1) := by decide +kernel
theorem dX4_set_27 : decode cX4_set 27 = .ok (.iaload, 1) := by decide +kernel
theorem dX4_set_28 : decode cX4_set 28 = .ok (.invokestatic 49, 3) := by decide +kernel
theorem dX4_set_31 : decode cX4_set 31 = .ok (.ifCond .ne 6, 3) := by decide +kernel
theorem dX4_set_34 : decode cX4_set 34 = .ok (.bipush (-2), 2) := by decide +kernel
theorem dX4_set_36 : decode cX4_set 36 = .ok (.ireturn, 1) := by decide +kernel
theorem dX4_set_37 : decode cX4_set 37 = .ok (.aload_n 0, 1) := by decide +kernel
theorem dX4_set_38 : decode cX4_set 38 = .ok (.getfield 19, 3) := by decide +kernel
theorem dX4_set_41 : decode cX4_set 41 = .ok (.aload_n 0, 1) := by decide +kernel
theorem dX4_set_42 : decode cX4_set 42 = .ok (.getfield 10, 3) := by decide +kernel
theorem dX4_set_45 : decode cX4_set 45 = .ok (.invokevirtual 59, 3) := by decide +kernel
theorem dX4_set_48 : decode cX4_set 48 = .ok (.aload_n 0, 1) := by decide +kernel
theorem dX4_set_49 : decode cX4_set 49 = .ok (.getfield 10, 3) := by decide +kernel
theorem dX4_set_52 : decode cX4_set 52 = .ok (.getfield 63, 3) := by decide +kernel
theorem dX4_set_55 : decode cX4_set 55 = .ok (.iload_n 1, 1) := by decide +kernel
theorem dX4_set_56 : decode cX4_set 56 = .ok (.iaload, 1) := by decide +kernel
theorem dX4_set_57 : decode cX4_set 57 = .ok (.istore_n 3, 1) := by decide +kernel
theorem dX4_set_58 : decode cX4_set 58 = .ok (.aload_n 0, 1) := by decide +kernel
theorem dX4_set_59 : decode cX4_set 59 = .ok (.getfield 10, 3) := by decide +kernel
theorem dX4_set_62 : decode cX4_set 62 = .ok (.getfield 63, 3) := by decide +kernel
theorem dX4_set_65 : decode cX4_set 65 = .ok (.iload_n 1, 1) := by decide +kernel
theorem dX4_set_66 : decode cX4_set 66 = .ok (.iload_n 2, 1) := by decide +kernel
theorem dX4_set_67 : decode cX4_set 67 = .ok (.iastore, 1) := by decide +kernel
theorem dX4_set_68 : decode cX4_set 68 = .ok (.iload_n 3, 1) := by decide +kernel
theorem dX4_set_69 : decode cX4_set 69 = .ok (.ireturn, 1) := by decide +kernel
set_option maxRecDepth 20000 in
theorem ggX4_add_X4_isWithin : GoodIn wsX4_add wsX4_isWithin := goodIn_r _ [7] (by decide +kernel) (by decide +kernel)
set_option maxRecDepth 20000 in
theorem gX4_add_X4_isWithin : GoodIn wsX4_add (va_wsS RX4 49 yX4_isWithin wsX4_isWithin) := goodIn_app (goodIn_of _ (by decide +kernel)) ggX4_add_X4_isWithin
set_option maxRecDepth 20000 in
theorem ggX4_add_X0_keep : GoodIn wsX4_add wsX0_keep := goodIn_r _ [12, 13, 14, 15, 16, 17, 18, 19, 20, 21, 22, 23, 24, 25, 26, 27, 28, 29, 30, 31, 32, 33, 34, 35, 36, 37, 38, 39, 40, 6, 41, 42, 43, 44, 45, 46, 72, 73, 74, 57, 58, 59, 60, 61, 62, 63, 64, 65, 66, 67, 68, 69, 70, 71] (by decide +kernel) (by decide +kernel)
set_option maxRecDepth 20000 in
theorem gX4_add_X0_keep : GoodIn wsX4_add (wsV RX4 59 RX0 yX0_keep wsX0_keep) := goodIn_app (goodIn_of _ (by decide +kernel)) ggX4_add_X0_keep
set_option maxRecDepth 20000 in
theorem ggX4_add_X3_addExcuse : GoodIn wsX4_add wsX3_addExcuse := goodIn_r _ [50, 27, 26, 28, 57, 58, 59, 60, 61, 62, 63, 64, 65, 66, 67, 68, 69, 70, 71] (by decide +kernel) (by decide +kernel)
set_option maxRecDepth 20000 in
theorem gX4_add_X3_addExcuse : GoodIn wsX4_add (wsV RX4 70 RX3 yX3_addExcuse wsX3_addExcuse) := goodIn_app (goodIn_of _ (by decide +kernel)) ggX4_add_X3_addExcuse
theorem dX4_add_0 : decode cX4_add 0 = .ok (.iload_n 1, 1) := by decide +kernel
theorem dX4_add_1 : decode cX4_add 1 = .ok (.iconst 0, 1) := by decide +kernel
theorem dX4_add_2 : decode cX4_add 2 = .ok (.iconst 4, 1) := by decide +kernel
theorem dX4_add_3 : decode cX4_add 3 = .ok (.invokestatic 49, 3) := by decide +kernel
theorem dX4_add_6 : decode cX4_add 6 = .ok (.ifCond .eq 13, 3) := by decide +kernel
theorem dX4_add_9 : decode cX4_add 9 = .ok (.iload_n 2, 1) := by decide +kernel
theorem dX4_add_10 : decode cX4_add 10 = .ok (.iconst 1, 1) := by decide +kernel
theorem dX4_add_11 : decode cX4_add 11 = .ok (.bipush 99, 2) := by decide +kernel
theorem dX4_add_13 : decode cX4_add 13 = .ok (.invokestatic 49, 3) := by decide +kernel
theorem dX4_add_16 : decode cX4_add 16 = .ok (.ifCond .ne 6, 3) := by decide +kernel
theorem dX4_add_19 : decode cX4_add 19 = .ok (.bipush (-2), 2) := by decide +kernel
theorem dX4_add_21 : decode cX4_add 21 = .ok (.ireturn, 1) := by decide +kernel
theorem dX4_add_22 : decode cX4_add 22 = .ok (.aload_n 0, 1) := by decide +kernel
theorem dX4_add_23 : decode cX4_add 23 = .ok (.getfield 10, 3) := by decide +kernel
theorem dX4_add_26 : decode cX4_add 26 = .ok (.getfield 66, 3) := by decide +kernel
theorem dX4_add_29 : decode cX4_add 29 = .ok (.bipush 12, 2) := by decide +kernel
theorem dX4_add_31 : decode cX4_add 31 = .ok (.if_icmp .lt 6, 3) := by decide +kernel
theorem dX4_add_34 : decode cX4_add 34 = .ok (.bipush (-4), 2) := by decide +kernel
theorem dX4_add_36 : decode cX4_add 36 = .ok (.ireturn, 1) := by decide +kernel
theorem dX4_add_37 : decode cX4_add 37 = .ok (.aload_n 0, 1) := by decide +kernel
theorem dX4_add_38 : decode cX4_add 38 = .ok (.getfield 19, 3) := by decide +kernel
theorem dX4_add_41 : decode cX4_add 41 = .ok (.aload_n 0, 1) := by decide +kernel
theorem dX4_add_42 : decode cX4_add 42 = .ok (.getfield 10, 3) := by decide +kernel
theorem dX4_add_45 : decode cX4_add 45 = .ok (.invokevirtual 59, 3) := by decide +kernel
theorem dX4_add_48 : decode cX4_add 48 = .ok (.aload_n 0, 1) := by decide +kernel
theorem dX4_add_49 : decode cX4_add 49 = .ok (.getfield 10, 3) := by decide +kernel
theorem dX4_add_52 : decode cX4_add 52 = .ok (.iload_n 1, 1) := by decide +kernel
theorem dX4_add_53 : decode cX4_add 53 = .ok (.iload_n 2, 1) := by decide +kernel
theorem dX4_add_54 : decode cX4_add 54 = .ok (.invokevirtual 70, 3) := by decide +kernel
theorem dX4_add_57 : decode cX4_add 57 = .ok (.ireturn, 1) := by decide +kernel
set_option maxRecDepth 20000 in
theorem ggX4_worth_X3_hasExcuse : GoodIn wsX4_worth wsX3_hasExcuse := goodIn_r _ [8, 9, 57, 58, 59, 60, 61, 62, 63, 64, 65, 66, 67, 68, 69, 70, 71] (by decide +kernel) (by decide +kernel)
set_option maxRecDepth 20000 in
theorem gX4_worth_X3_hasExcuse : GoodIn wsX4_worth (wsV RX4 74 RX3 yX3_hasExcuse wsX3_hasExcuse) := goodIn_app (goodIn_of _ (by decide +kernel)) ggX4_worth_X3_hasExcuse
set_option maxRecDepth 20000 in
theorem ggX4_worth_X4_isWithin : GoodIn wsX4_worth wsX4_isWithin := goodIn_r _ [13] (by decide +kernel) (by decide +kernel)
set_option maxRecDepth 20000 in
theorem gX4_worth_X4_isWithin : GoodIn wsX4_worth (va_wsS RX4 49 yX4_isWithin wsX4_isWithin) := goodIn_app (goodIn_of _ (by decide +kernel)) ggX4_worth_X4_isWithin
set_option maxRecDepth 20000 in
theorem ggX4_worth_X0_keep : GoodIn wsX4_worth wsX0_keep := goodIn_r _ [18, 19, 20, 21, 22, 23, 24, 25, 26, 27, 28, 7, 29, 30, 9, 31, 32, 33, 34, 35, 36, 37, 38, 39, 40, 41, 42, 43, 44, 12, 45, 46, 47, 48, 49, 50, 72, 73, 74, 57, 58, 59, 60, 61, 62, 63, 64, 65, 66, 67, 68, 69, 70, 71] (by decide +kernel) (by decide +kernel)
set_option maxRecDepth 20000 in
theorem gX4_worth_X0_keep : GoodIn wsX4_worth (wsV RX4 59 RX0 yX0_keep wsX0_keep) := goodIn_app (goodIn_of _ (by decide +kernel)) ggX4_worth_X0_keep
theorem dX4_worth_0 : decode cX4_worth 0 = .ok (.aload_n 0, 1) := by decide +kernel
theorem dX4_worth_1 : decode cX4_worth 1 = .ok (.getfield 10, 3) := by decide +kernel
theorem dX4_worth_4 : decode cX4_worth 4 = .ok (.iload_n 1, 1) := by decide +kernel
theorem dX4_worth_5 : decode cX4_worth 5 = .ok (.invokevirtual 74, 3) := by decide +kernel
theorem dX4_worth_8 : decode cX4_worth 8 = .ok (.ifCond .ne 5, 3) := by decide +kernel
theorem dX4_worth_11 : decode cX4_worth 11 = .ok (.iconst (-1), 1) := by decide +kernel
theorem dX4_worth_12 : decode cX4_worth 12 = .ok (.ireturn, 1) := by decide +kernel
theorem dX4_worth_13 : decode cX4_worth 13 = .ok (.iload_n 2, 1) := by decide +kernel
theorem dX4_worth_14 : decode cX4_worth 14 = .ok (.iconst 1, 1) := by decide +kernel
theorem dX4_worth_15 : decode cX4_worth 15 = .ok (.bipush 99, 2) := by decide +kernel
theorem dX4_worth_17 : decode cX4_worth 17 = .ok (.invokestatic 49, 3) := by decide +kernel
theorem dX4_worth_20 : decode cX4_worth 20 = .ok (.ifCond .ne 6, 3) := by decide +kernel
theorem dX4_worth_23 : decode cX4_worth 23 = .ok (.bipush (-2), 2) := by decide +kernel
theorem dX4_worth_25 : decode cX4_worth 25 = .ok (.ireturn, 1) := by decide +kernel
theorem dX4_worth_26 : decode cX4_worth 26 = .ok (.aload_n 0, 1) := by decide +kernel
theorem dX4_worth_27 : decode cX4_worth 27 = .ok (.getfield 19, 3) := by decide +kernel
theorem dX4_worth_30 : decode cX4_worth 30 = .ok (.aload_n 0, 1) := by decide +kernel
theorem dX4_worth_31 : decode cX4_worth 31 = .ok (.getfield 10, 3) := by decide +kernel
theorem dX4_worth_34 : decode cX4_worth 34 = .ok (.invokevirtual 59, 3) := by decide +kernel
theorem dX4_worth_37 : decode cX4_worth 37 = .ok (.aload_n 0, 1) := by decide +kernel
theorem dX4_worth_38 : decode cX4_worth 38 = .ok (.getfield 10, 3) := by decide +kernel
theorem dX4_worth_41 : decode cX4_worth 41 = .ok (.getfield 78, 3) := by decide +kernel
theorem dX4_worth_44 : decode cX4_worth 44 = .ok (.iload_n 1, 1) := by decide +kernel
theorem dX4_worth_45 : decode cX4_worth 45 = .ok (.iaload, 1) := by decide +kernel
theorem dX4_worth_46 : decode cX4_worth 46 = .ok (.istore_n 3, 1) := by decide +kernel
theorem dX4_worth_47 : decode cX4_worth 47 = .ok (.aload_n 0, 1) := by decide +kernel
theorem dX4_worth_48 : decode cX4_worth 48 = .ok (.getfield 10, 3) := by decide +kernel
theorem dX4_worth_51 : decode cX4_worth 51 = .ok (.getfield 78, 3) := by decide +kernel
theorem dX4_worth_54 : decode cX4_worth 54 = .ok (.iload_n 1, 1) := by decide +kernel
theorem dX4_worth_55 : decode cX4_worth 55 = .ok (.iload_n 2, 1) := by decide +kernel
theorem dX4_worth_56 : decode cX4_worth 56 = .ok (.iastore, 1) := by decide +kernel
theorem dX4_worth_57 : decode cX4_worth 57 = .ok (.iload_n 3, 1) := by decide +kernel
theorem dX4_worth_58 : decode cX4_worth 58 = .ok (.ireturn, 1) := by decide +kernel
set_option maxRecDepth 20000 in
theorem ggX4_offer_X4_offerError : GoodIn wsX4_offer wsX4_offerError := goodIn_r _ [7, 2, 8, 9, 6, 10, 11, 12, 13, 14, 15, 16, 17, 18, 19, 111, 112, 113, 114, 115, 116, 117, 118, 119, 120, 121, 122, 123, 124, 125, 126, 127, 128, 129, 130, 131] (by decide +kernel) (by decide +kernel)
set_option maxRecDepth 20000 in
theorem gX4_offer_X4_offerError : GoodIn wsX4_offer (wsV RX4 81 RX4 yX4_offerError wsX4_offerError) := goodIn_app (goodIn_of _ (by decide +kernel)) ggX4_offer_X4_offerError
set_option maxRecDepth 20000 in
theorem ggX4_offer_X0_keep : GoodIn wsX4_offer wsX0_keep := goodIn_r _ [24, 25, 26, 27, 28, 29, 30, 31, 32, 33, 34, 17, 35, 36, 19, 37, 38, 39, 40, 41, 42, 43, 44, 45, 46, 47, 48, 49, 50, 6, 51, 52, 53, 54, 55, 56, 132, 133, 134, 117, 118, 119, 120, 121, 122, 123, 124, 125, 126, 127, 128, 129, 130, 131] (by decide +kernel) (by decide +kernel)
set_option maxRecDepth 20000 in
theorem gX4_offer_X0_keep : GoodIn wsX4_offer (wsV RX4 59 RX0 yX0_keep wsX0_keep) := goodIn_app (goodIn_of _ (by decide +kernel)) ggX4_offer_X0_keep
set_option maxRecDepth 20000 in
theorem ggX4_offer_X3_takeOffer : GoodIn wsX4_offer wsX3_takeOffer := goodIn_r _ [60, 46, 37, 61, 62, 63, 17, 64, 36, 41, 65, 66, 67, 68, 40, 69, 70, 71, 72, 38, 47, 73, 74, 75, 76, 77, 78, 30, 79, 80, 81, 82, 83, 84, 6, 85, 86, 87, 88, 89, 90, 91, 92, 93, 94, 95, 96, 97, 39, 44, 98, 99, 100, 101, 102, 103, 104, 105, 106, 29, 31, 107, 108, 109, 110, 42, 45, 48, 117, 118, 119, 120, 121, 122, 123, 124, 125, 126, 127, 128, 129, 130, 131] (by decide +kernel) (by decide +kernel)
set_option maxRecDepth 20000 in
theorem gX4_offer_X3_takeOffer : GoodIn wsX4_offer (wsV RX4 85 RX3 yX3_takeOffer wsX3_takeOffer) := goodIn_app (goodIn_of _ (by decide +kernel)) ggX4_offer_X3_takeOffer
theorem dX4_offer_0 : decode cX4_offer 0 = .ok (.aload_n 0, 1) := by decide +kernel
theorem dX4_offer_1 : decode cX4_offer 1 = .ok (.iload_n 1, 1) := by decide +kernel
theorem dX4_offer_2 : decode cX4_offer 2 = .ok (.iload_n 2, 1) := by decide +kernel
theorem dX4_offer_3 : decode cX4_offer 3 = .ok (.iload_n 3, 1) := by decide +kernel
theorem dX4_offer_4 : decode cX4_offer 4 = .ok (.iload 4, 2) := by decide +kernel
theorem dX4_offer_6 : decode cX4_offer 6 = .ok (.invokevirtual 81, 3) := by decide +kernel
theorem dX4_offer_9 : decode cX4_offer 9 = .ok (.istore 5, 2) := by decide +kernel
theorem dX4_offer_11 : decode cX4_offer 11 = .ok (.iload 5, 2) := by decide +kernel
theorem dX4_offer_13 : decode cX4_offer 13 = .ok (.ifCond .eq 6, 3) := by decide +kernel
theorem dX4_offer_16 : decode cX4_offer 16 = .ok (.iload 5, 2) := by decide +kernel
theorem dX4_offer_18 : decode cX4_offer 18 = .ok (.ireturn, 1) := by decide +kernel
theorem dX4_offer_19 : decode cX4_offer 19 = .ok (.aload_n 0, 1) := by decide +kernel
theorem dX4_offer_20 : decode cX4_offer 20 = .ok (.getfield 19, 3) := by decide +kernel
theorem dX4_offer_23 : decode cX4_offer 23 = .ok (.aload_n 0, 1) := by decide +kernel
theorem dX4_offer_24 : decode cX4_offer 24 = .ok (.getfield 10, 3) := by decide +kernel
theorem dX4_offer_27 : decode cX4_offer 27 = .ok (.invokevirtual 59, 3) := by decide +kernel
theorem dX4_offer_30 : decode cX4_offer 30 = .ok (.aload_n 0, 1) := by decide +kernel
theorem dX4_offer_31 : decode cX4_offer 31 = .ok (.getfield 10, 3) := by decide +kernel
theorem dX4_offer_34 : decode cX4_offer 34 = .ok (.iload_n 1, 1) := by decide +kernel
theorem dX4_offer_35 : decode cX4_offer 35 = .ok (.iload_n 2, 1) := by decide +kernel
theorem dX4_offer_36 : decode cX4_offer 36 = .ok (.iload_n 3, 1) := by decide +kernel
theorem dX4_offer_37 : decode cX4_offer 37 = .ok (.iload 4, 2) := by decide +kernel
theorem dX4_offer_39 : decode cX4_offer 39 = .ok (.invokevirtual 85, 3) := by decide +kernel
theorem dX4_offer_42 : decode cX4_offer 42 = .ok (.ireturn, 1) := by decide +kernel
set_option maxRecDepth 20000 in
theorem ggX4_pay_X4_isPupil : GoodIn wsX4_pay wsX4_isPupil := goodIn_r _ [8, 9, 10, 7, 11] (by decide +kernel) (by decide +kernel)
set_option maxRecDepth 20000 in
theorem gX4_pay_X4_isPupil : GoodIn wsX4_pay (va_wsS RX4 88 yX4_isPupil wsX4_isPupil) := goodIn_app (goodIn_of _ (by decide +kernel)) ggX4_pay_X4_isPupil
set_option maxRecDepth 20000 in
theorem ggX4_pay_X4_isWithin : GoodIn wsX4_pay wsX4_isWithin := goodIn_r _ [11] (by decide +kernel) (by decide +kernel)
set_option maxRecDepth 20000 in
theorem gX4_pay_X4_isWithin : GoodIn wsX4_pay (va_wsS RX4 49 yX4_isWithin wsX4_isWithin) := goodIn_app (goodIn_of _ (by decide +kernel)) ggX4_pay_X4_isWithin
set_option maxRecDepth 20000 in
theorem ggX4_pay_X0_keep : GoodIn wsX4_pay wsX0_keep := goodIn_r _ [16, 17, 18, 19, 20, 21, 22, 23, 24, 25, 26, 27, 28, 29, 30, 31, 32, 33, 34, 35, 36, 37, 38, 39, 40, 41, 42, 43, 44, 7, 45, 46, 47, 48, 49, 50, 72, 73, 74, 57, 58, 59, 60, 61, 62, 63, 64, 65, 66, 67, 68, 69, 70, 71] (by decide +kernel) (by decide +kernel)
set_option maxRecDepth 20000 in
theorem gX4_pay_X0_keep : GoodIn wsX4_pay (wsV RX4 59 RX0 yX0_keep wsX0_keep) := goodIn_app (goodIn_of _ (by decide +kernel)) ggX4_pay_X0_keep
theorem dX4_pay_0 : decode cX4_pay 0 = .ok (.iload_n 1, 1) := by decide +kernel
theorem dX4_pay_1 : decode cX4_pay 1 = .ok (.invokestatic 88, 3) := by decide +kernel
theorem dX4_pay_4 : decode cX4_pay 4 = .ok (.ifCond .ne 5, 3) := by decide +kernel
theorem dX4_pay_7 : decode cX4_pay 7 = .ok (.iconst (-1), 1) := by decide +kernel
theorem dX4_pay_8 : decode cX4_pay 8 = .ok (.ireturn, 1) := by decide +kernel
theorem dX4_pay_9 : decode cX4_pay 9 = .ok (.iload_n 2, 1) := by decide +kernel
theorem dX4_pay_10 : decode cX4_pay 10 = .ok (.iconst 1, 1) := by decide +kernel
theorem dX4_pay_11 : decode cX4_pay 11 = .ok (.sipush 9999, 3) := by decide +kernel
theorem dX4_pay_14 : decode cX4_pay 14 = .ok (.invokestatic 49, 3) := by decide +kernel
theorem dX4_pay_17 : decode cX4_pay 17 = .ok (.ifCond .ne 6, 3) := by decide +kernel
theorem dX4_pay_20 : decode cX4_pay 20 = .ok (.bipush (-2), 2) := by decide +kernel
theorem dX4_pay_22 : decode cX4_pay 22 = .ok (.ireturn, 1) := by decide +kernel
theorem dX4_pay_23 : decode cX4_pay 23 = .ok (.aload_n 0, 1) := by decide +kernel
theorem dX4_pay_24 : decode cX4_pay 24 = .ok (.getfield 10, 3) := by decide +kernel
theorem dX4_pay_27 : decode cX4_pay 27 = .ok (.getfield 91, 3) := by decide +kernel
theorem dX4_pay_30 : decode cX4_pay 30 = .ok (.iload_n 1, 1) := by decide +kernel
theorem dX4_pay_31 : decode cX4_pay 31 = .ok (.iaload, 1) := by decide +kernel
theorem dX4_pay_32 : decode cX4_pay 32 = .ok (.iload_n 2, 1) := by decide +kernel
theorem dX4_pay_33 : decode cX4_pay 33 = .ok (.if_icmp .ge 6, 3) := by decide +kernel
theorem dX4_pay_36 : decode cX4_pay 36 = .ok (.bipush (-5), 2) := by decide +kernel
theorem dX4_pay_38 : decode cX4_pay 38 = .ok (.ireturn, 1) := by decide +kernel
theorem dX4_pay_39 : decode cX4_pay 39 = .ok (.aload_n 0, 1) := by decide +kernel
theorem dX4_pay_40 : decode cX4_pay 40 = .ok (.getfield 19, 3) := by decide +kernel
theorem dX4_pay_43 : decode cX4_pay 43 = .ok (.aload_n 0, 1) := by decide +kernel
theorem dX4_pay_44 : decode cX4_pay 44 = .ok (.getfield 10, 3) := by decide +kernel
theorem dX4_pay_47 : decode cX4_pay 47 = .ok (.invokevirtual 59, 3) := by decide +kernel
theorem dX4_pay_50 : decode cX4_pay 50 = .ok (.aload_n 0, 1) := by decide +kernel
theorem dX4_pay_51 : decode cX4_pay 51 = .ok (.getfield 10, 3) := by decide +kernel
theorem dX4_pay_54 : decode cX4_pay 54 = .ok (.getfield 91, 3) := by decide +kernel
theorem dX4_pay_57 : decode cX4_pay 57 = .ok (.iload_n 1, 1) := by decide +kernel
theorem dX4_pay_58 : decode cX4_pay 58 = .ok (.dup2, 1) := by decide +kernel
theorem dX4_pay_59 : decode cX4_pay 59 = .ok (.iaload, 1) := by decide +kernel
theorem dX4_pay_60 : decode cX4_pay 60 = .ok (.iload_n 2, 1) := by decide +kernel
theorem dX4_pay_61 : decode cX4_pay 61 = .ok (.isub, 1) := by decide +kernel
theorem dX4_pay_62 : decode cX4_pay 62 = .ok (.iastore, 1) := by decide +kernel
theorem dX4_pay_63 : decode cX4_pay 63 = .ok (.aload_n 0, 1) := by decide +kernel
theorem dX4_pay_64 : decode cX4_pay 64 = .ok (.getfield 10, 3) := by decide +kernel
theorem dX4_pay_67 : decode cX4_pay 67 = .ok (.getfield 94, 3) := by decide +kernel
theorem dX4_pay_70 : decode cX4_pay 70 = .ok (.iload_n 1, 1) := by decide +kernel
theorem dX4_pay_71 : decode cX4_pay 71 = .ok (.dup2, 1) := by decide +kernel
theorem dX4_pay_72 : decode cX4_pay 72 = .ok (.iaload, 1) := by decide +kernel
theorem dX4_pay_73 : decode cX4_pay 73 = .ok (.iload_n 2, 1) := by decide +kernel
theorem dX4_pay_74 : decode cX4_pay 74 = .ok (.iadd, 1) := by decide +kernel
theorem dX4_pay_75 : decode cX4_pay 75 = .ok (.iastore, 1) := by decide +kernel
theorem dX4_pay_76 : decode cX4_pay 76 = .ok (.aload_n 0, 1) := by decide +kernel
theorem dX4_pay_77 : decode cX4_pay 77 = .ok (.getfield 10, 3) := by decide +kernel
theorem dX4_pay_80 : decode cX4_pay 80 = .ok (.getfield 91, 3) := by decide +kernel
theorem dX4_pay_83 : decode cX4_pay 83 = .ok (.iload_n 1, 1) := by decide +kernel
theorem dX4_pay_84 : decode cX4_pay 84 = .ok (.iaload, 1) := by decide +kernel
theorem dX4_pay_85 : decode cX4_pay 85 = .ok (.ireturn, 1) := by decide +kernel
set_option maxRecDepth 20000 in
theorem ggX4_endTerm_X0_keep : GoodIn wsX4_endTerm wsX0_keep := goodIn_r _ [8, 9, 10, 11, 12, 13, 14, 15, 16, 17, 18, 19, 20, 21, 22, 23, 24, 25, 26, 27, 28, 29, 30, 31, 32, 33, 34, 35, 36, 37, 38, 39, 40, 41, 42, 43, 73, 74, 75, 58, 59, 60, 61, 62, 63, 64, 65, 66, 67, 68, 69, 70, 71, 72] (by decide +kernel) (by decide +kernel)
set_option maxRecDepth 20000 in
theorem gX4_endTerm_X0_keep : GoodIn wsX4_endTerm (wsV RX4 59 RX0 yX0_keep wsX0_keep) := goodIn_app (goodIn_of _ (by decide +kernel)) ggX4_endTerm_X0_keep
set_option maxRecDepth 20000 in
theorem ggX4_endTerm_X4_sum : GoodIn wsX4_endTerm wsX4_sum := goodIn_r _ [46] (by decide +kernel) (by decide +kernel)
set_option maxRecDepth 20000 in
theorem gX4_endTerm_X4_sum : GoodIn wsX4_endTerm (va_wsS RX4 100 yX4_sum wsX4_sum) := goodIn_app (goodIn_of _ (by decide +kernel)) ggX4_endTerm_X4_sum
set_option maxRecDepth 20000 in
theorem ggX4_endTerm_X3_beginNextTerm : GoodIn wsX4_endTerm wsX3_beginNextTerm := goodIn_r _ [50, 26, 32, 27, 51, 13, 14, 15, 33, 35, 58, 59, 60, 61, 62, 63, 64, 65, 66, 67, 68, 69, 70, 71, 72] (by decide +kernel) (by decide +kernel)
set_option maxRecDepth 20000 in
theorem gX4_endTerm_X3_beginNextTerm : GoodIn wsX4_endTerm (wsV RX4 104 RX3 yX3_beginNextTerm wsX3_beginNextTerm) := goodIn_app (goodIn_of _ (by decide +kernel)) ggX4_endTerm_X3_beginNextTerm
theorem dX4_endTerm_0 : decode cX4_endTerm 0 = .ok (.aload_n 0, 1) := by decide +kernel
theorem dX4_endTerm_1 : decode cX4_endTerm 1 = .ok (.getfield 19, 3) := by decide +kernel
theorem dX4_endTerm_4 : decode cX4_endTerm 4 = .ok (.aload_n 0, 1) := by decide +kernel
theorem dX4_endTerm_5 : decode cX4_endTerm 5 = .ok (.getfield 10, 3) := by decide +kernel
theorem dX4_endTerm_8 : decode cX4_endTerm 8 = .ok (.invokevirtual 59, 3) := by decide +kernel
theorem dX4_endTerm_11 : decode cX4_endTerm 11 = .ok (.aload_n 0, 1) := by decide +kernel
theorem dX4_endTerm_12 : decode cX4_endTerm 12 = .ok (.getfield 10, 3) := by decide +kernel
theorem dX4_endTerm_15 : decode cX4_endTerm 15 = .ok (.getfield 97, 3) := by decide +kernel
theorem dX4_endTerm_18 : decode cX4_endTerm 18 = .ok (.invokestatic 100, 3) := by decide +kernel
theorem dX4_endTerm_21 : decode cX4_endTerm 21 = .ok (.istore_n 1, 1) := by decide +kernel
theorem dX4_endTerm_22 : decode cX4_endTerm 22 = .ok (.aload_n 0, 1) := by decide +kernel
theorem dX4_endTerm_23 : decode cX4_endTerm 23 = .ok (.getfield 10, 3) := by decide +kernel
theorem dX4_endTerm_26 : decode cX4_endTerm 26 = .ok (.invokevirtual 104, 3) := by decide +kernel
theorem dX4_endTerm_29 : decode cX4_endTerm 29 = .ok (.iload_n 1, 1) := by decide +kernel
theorem dX4_endTerm_30 : decode cX4_endTerm 30 = .ok (.ireturn, 1) := by decide +kernel
set_option maxRecDepth 20000 in
theorem ggX4_read_X4_fault : GoodIn wsX4_read wsX4_fault := goodIn_r _ [11, 3, 4, 5, 6, 12, 13, 14, 15, 16, 17, 18, 19, 20, 21, 22, 23, 24, 25, 26, 27, 28, 29, 30, 31, 32, 10, 33, 34, 35, 36, 37, 38, 39, 40, 41, 42, 43, 44, 45, 46, 47, 48, 49, 50, 51, 52, 53, 54, 55, 56, 57, 58, 59, 60, 61, 62, 168, 169, 170, 171, 172, 173, 174, 175, 176, 177, 178, 179, 180] (by decide +kernel) (by decide +kernel)
set_option maxRecDepth 20000 in
theorem gX4_read_X4_fault : GoodIn wsX4_read (wsV RX4 107 RX4 yX4_fault wsX4_fault) := goodIn_app (goodIn_of _ (by decide +kernel)) ggX4_read_X4_fault
set_option maxRecDepth 20000 in
theorem ggX4_read_X0_keep : GoodIn wsX4_read wsX0_keep := goodIn_r _ [67, 68, 69, 70, 71, 72, 73, 74, 75, 76, 77, 78, 79, 80, 81, 82, 83, 84, 85, 86, 87, 88, 89, 90, 91, 92, 93, 94, 95, 10, 96, 97, 98, 99, 100, 101, 181, 182, 183, 184, 185, 186, 187, 188, 189, 190, 191, 192, 193, 194, 195, 196, 197, 198] (by decide +kernel) (by decide +kernel)
set_option maxRecDepth 20000 in
theorem gX4_read_X0_keep : GoodIn wsX4_read (wsV RX4 59 RX0 yX0_keep wsX0_keep) := goodIn_app (goodIn_of _ (by decide +kernel)) ggX4_read_X0_keep
set_option maxRecDepth 20000 in
theorem ggX4_read_X2_begin : GoodIn wsX4_read wsX2_begin := goodIn_r _ [16, 17, 18, 176, 177, 178, 179, 180] (by decide +kernel) (by decide +kernel)
set_option maxRecDepth 20000 in
theorem gX4_read_X2_begin : GoodIn wsX4_read (wsV RX4 111 RX2 yX2_begin wsX2_begin) := goodIn_app (goodIn_of _ (by decide +kernel)) ggX4_read_X2_begin
set_option maxRecDepth 20000 in
theorem ggX4_read_X4_stampsForWhatWasRead : GoodIn wsX4_read wsX4_stampsForWhatWasRead := goodIn_r _ [105, 2, 3, 106, 107, 108, 109, 110, 111, 112, 78, 113, 81, 114, 115, 116, 117, 91, 82, 118, 119, 120, 121, 80, 86, 122, 123, 124, 125, 85, 126, 127, 128, 129, 83, 92, 130, 131, 132, 133, 134, 135, 73, 136, 137, 138, 139, 140, 141, 10, 142, 143, 144, 145, 146, 147, 148, 149, 150, 151, 152, 153, 154, 84, 89, 155, 156, 157, 158, 159, 160, 161, 162, 163, 72, 74, 164, 165, 166, 167, 87, 90, 93, 168, 169, 170, 171, 172, 173, 176, 177, 178, 179, 180, 184, 185, 186, 187, 188, 189, 190, 191, 192, 193, 194, 195, 196, 197, 198] (by decide +kernel) (by decide +kernel)
set_option maxRecDepth 20000 in
theorem gX4_read_X4_stampsForWhatWasRead : GoodIn wsX4_read (wsV RX4 121 RX4 yX4_stampsForWhatWasRead wsX4_stampsForWhatWasRead) := goodIn_app (goodIn_of _ (by decide +kernel)) ggX4_read_X4_stampsForWhatWasRead
set_option maxRecDepth 20000 in
theorem ggX4_read_X2_takes : GoodIn wsX4_read wsX2_takes := goodIn_r _ [22, 17, 23, 24, 25, 26, 15, 27, 28, 29, 30, 31, 32, 10, 33, 34, 35, 36, 37, 38, 39, 40, 41, 42, 43, 44, 45, 46, 47, 48, 49, 50, 51, 52, 53, 54, 18, 55, 56, 57, 58, 176, 177, 178, 179, 180] (by decide +kernel) (by decide +kernel)
set_option maxRecDepth 20000 in
theorem gX4_read_X2_takes : GoodIn wsX4_read (wsV RX4 124 RX2 yX2_takes wsX2_takes) := goodIn_app (goodIn_of _ (by decide +kernel)) ggX4_read_X2_takes
theorem dX4_read_0 : decode cX4_read 0 = .ok (.aload_n 0, 1) := by decide +kernel
theorem dX4_read_1 : decode cX4_read 1 = .ok (.invokevirtual 107, 3) := by decide +kernel
theorem dX4_read_4 : decode cX4_read 4 = .ok (.bipush (-6), 2) := by decide +kernel
theorem dX4_read_6 : decode cX4_read 6 = .ok (.if_icmp .eq 6, 3) := by decide +kernel
theorem dX4_read_9 : decode cX4_read 9 = .ok (.bipush (-3), 2) := by decide +kernel
theorem dX4_read_11 : decode cX4_read 11 = .ok (.ireturn, 1) := by decide +kernel
theorem dX4_read_12 : decode cX4_read 12 = .ok (.aload_n 0, 1) := by decide +kernel
theorem dX4_read_13 : decode cX4_read 13 = .ok (.getfield 19, 3) := by decide +kernel
theorem dX4_read_16 : decode cX4_read 16 = .ok (.aload_n 0, 1) := by decide +kernel
theorem dX4_read_17 : decode cX4_read 17 = .ok (.getfield 10, 3) := by decide +kernel
theorem dX4_read_20 : decode cX4_read 20 = .ok (.invokevirtual 59, 3) := by decide +kernel
theorem dX4_read_23 : decode cX4_read 23 = .ok (.iconst 0, 1) := by decide +kernel
theorem dX4_read_24 : decode cX4_read 24 = .ok (.istore_n 1, 1) := by decide +kernel
theorem dX4_read_25 : decode cX4_read 25 = .ok (.aload_n 0, 1) := by decide +kernel
theorem dX4_read_26 : decode cX4_read 26 = .ok (.getfield 41, 3) := by decide +kernel
theorem dX4_read_29 : decode cX4_read 29 = .ok (.invokevirtual 111, 3) := by decide +kernel
theorem dX4_read_32 : decode cX4_read 32 = .ok (.iconst 0, 1) := by decide +kernel
theorem dX4_read_33 : decode cX4_read 33 = .ok (.istore_n 2, 1) := by decide +kernel
theorem dX4_read_34 : decode cX4_read 34 = .ok (.iload_n 2, 1) := by decide +kernel
theorem dX4_read_35 : decode cX4_read 35 = .ok (.aload_n 0, 1) := by decide +kernel
theorem dX4_read_36 : decode cX4_read 36 = .ok (.getfield 34, 3) := by decide +kernel
theorem dX4_read_39 : decode cX4_read 39 = .ok (.getfield 114, 3) := by decide +kernel
theorem dX4_read_42 : decode cX4_read 42 = .ok (.if_icmp .ge 47, 3) := by decide +kernel
theorem dX4_read_45 : decode cX4_read 45 = .ok (.aload_n 0, 1) := by decide +kernel
theorem dX4_read_46 : decode cX4_read 46 = .ok (.getfield 34, 3) := by decide +kernel
theorem dX4_read_49 : decode cX4_read 49 = .ok (.getfield 117, 3) := by decide +kernel
theorem dX4_read_52 : decode cX4_read 52 = .ok (.iload_n 2, 1) := by decide +kernel
theorem dX4_read_53 : decode cX4_read 53 = .ok (.caload, 1) := by decide +kernel
theorem dX4_read_54 : decode cX4_read 54 = .ok (.bipush 44, 2) := by decide +kernel
theorem dX4_read_56 : decode cX4_read 56 = .ok (.if_icmp .ne 10, 3) := by decide +kernel
theorem dX4_read_59 : decode cX4_read 59 = .ok (.iload_n 1, 1) := by decide +kernel
theorem dX4_read_60 : decode cX4_read 60 = .ok (.aload_n 0, 1) := by decide +kernel
theorem dX4_read_61 : decode cX4_read 61 = .ok (.invokevirtual 121, 3) := by decide +kernel
theorem dX4_read_64 : decode cX4_read 64 = .ok (.iadd, 1) := by decide +kernel
theorem dX4_read_65 : decode cX4_read 65 = .ok (.istore_n 1, 1) := by decide +kernel
theorem dX4_read_66 : decode cX4_read 66 = .ok (.aload_n 0, 1) := by decide +kernel
theorem dX4_read_67 : decode cX4_read 67 = .ok (.getfield 41, 3) := by decide +kernel
theorem dX4_read_70 : decode cX4_read 70 = .ok (.aload_n 0, 1) := by decide +kernel
theorem dX4_read_71 : decode cX4_read 71 = .ok (.getfield 34, 3) := by decide +kernel
theorem dX4_read_74 : decode cX4_read 74 = .ok (.getfield 117, 3) := by decide +kernel
theorem dX4_read_77 : decode cX4_read 77 = .ok (.iload_n 2, 1) := by decide +kernel
theorem dX4_read_78 : decode cX4_read 78 = .ok (.caload, 1) := by decide +kernel
theorem dX4_read_79 : decode cX4_read 79 = .ok (.invokevirtual 124, 3) := by decide +kernel
theorem dX4_read_82 : decode cX4_read 82 = .ok (.pop, 1) := by decide +kernel
theorem dX4_read_83 : decode cX4_read 83 = .ok (.iinc 2 1, 3) := by decide +kernel
theorem dX4_read_86 : decode cX4_read 86 = .ok (.goto (-52), 3) := by decide +kernel
theorem dX4_read_89 : decode cX4_read 89 = .ok (.iload_n 1, 1) := by decide +kernel
theorem dX4_read_90 : decode cX4_read 90 = .ok (.aload_n 0, 1) := by decide +kernel
theorem dX4_read_91 : decode cX4_read 91 = .ok (.invokevirtual 121, 3) := by decide +kernel
theorem dX4_read_94 : decode cX4_read 94 = .ok (.iadd, 1) := by decide +kernel
theorem dX4_read_95 : decode cX4_read 95 = .ok (.istore_n 1, 1) := by decide +kernel
theorem dX4_read_96 : decode cX4_read 96 = .ok (.aload_n 0, 1) := by decide +kernel
theorem dX4_read_97 : decode cX4_read 97 = .ok (.getfield 34, 3) := by decide +kernel
theorem dX4_read_100 : decode cX4_read 100 = .ok (.iconst 0, 1) := by decide +kernel
theorem dX4_read_101 : decode cX4_read 101 = .ok (.putfield 114, 3) := by decide +kernel
theorem dX4_read_104 : decode cX4_read 104 = .ok (.iload_n 1, 1) := by decide +kernel
theorem dX4_read_105 : decode cX4_read 105 = .ok (.ireturn, 1) := by decide +kernel
set_option maxRecDepth 20000 in
theorem ggX4_excuse_X3_hasExcuse : GoodIn wsX4_excuse wsX3_hasExcuse := goodIn_r _ [9, 10, 30, 31, 32, 33, 34, 35, 36, 37, 38, 39, 40, 41, 42, 43, 44] (by decide +kernel) (by decide +kernel)
set_option maxRecDepth 20000 in
theorem gX4_excuse_X3_hasExcuse : GoodIn wsX4_excuse (wsV RX4 74 RX3 yX3_hasExcuse wsX3_hasExcuse) := goodIn_app (goodIn_of _ (by decide +kernel)) ggX4_excuse_X3_hasExcuse
set_option maxRecDepth 20000 in
theorem ggX4_excuse_X3_usesBySchool : GoodIn wsX4_excuse wsX3_usesBySchool := goodIn_r _ [14, 15, 30, 31, 32, 33, 34, 35, 36, 37, 38, 39, 40, 41, 42, 43, 44] (by decide +kernel) (by decide +kernel)
set_option maxRecDepth 20000 in
theorem gX4_excuse_X3_usesBySchool : GoodIn wsX4_excuse (wsV RX4 131 RX3 yX3_usesBySchool wsX3_usesBySchool) := goodIn_app (goodIn_of _ (by decide +kernel)) ggX4_excuse_X3_usesBySchool
set_option maxRecDepth 20000 in
theorem ggX4_excuse_X3_usersOf : GoodIn wsX4_excuse wsX3_usersOf := goodIn_r _ [19, 20, 21, 22, 8, 23, 15, 30, 31, 32, 33, 34, 35, 36, 37, 38, 39, 40, 41, 42, 43, 44] (by decide +kernel) (by decide +kernel)
set_option maxRecDepth 20000 in
theorem gX4_excuse_X3_usersOf : GoodIn wsX4_excuse (wsV RX4 138 RX3 yX3_usersOf wsX3_usersOf) := goodIn_app (goodIn_of _ (by decide +kernel)) ggX4_excuse_X3_usersOf
theorem dX4_excuse_0 : decode cX4_excuse 0 = .ok (.aload_n 0, 1) := by decide +kernel
theorem dX4_excuse_1 : decode cX4_excuse 1 = .ok (.getfield 10, 3) := by decide +kernel
theorem dX4_excuse_4 : decode cX4_excuse 4 = .ok (.iload_n 1, 1) := by decide +kernel
theorem dX4_excuse_5 : decode cX4_excuse 5 = .ok (.invokevirtual 74, 3) := by decide +kernel
theorem dX4_excuse_8 : decode cX4_excuse 8 = .ok (.ifCond .ne 5, 3) := by decide +kernel
theorem dX4_excuse_11 : decode cX4_excuse 11 = .ok (.iconst (-1), 1) := by decide +kernel
theorem dX4_excuse_12 : decode cX4_excuse 12 = .ok (.ireturn, 1) := by decide +kernel
theorem dX4_excuse_13 : decode cX4_excuse 13 = .ok (.iload_n 2, 1) := by decide +kernel
theorem dX4_excuse_14 : decode cX4_excuse 14 = .ok (.tableswitch 82 0 4 #[34, 44, 54, 63, 73], 34) := by decide +kernel
theorem dX4_excuse_48 : decode cX4_excuse 48 = .ok (.aload_n 0, 1) := by decide +kernel
theorem dX4_excuse_49 : decode cX4_excuse 49 = .ok (.getfield 10, 3) := by decide +kernel
theorem dX4_excuse_52 : decode cX4_excuse 52 = .ok (.getfield 128, 3) := by decide +kernel
theorem dX4_excuse_55 : decode cX4_excuse 55 = .ok (.iload_n 1, 1) := by decide +kernel
theorem dX4_excuse_56 : decode cX4_excuse 56 = .ok (.iaload, 1) := by decide +kernel
theorem dX4_excuse_57 : decode cX4_excuse 57 = .ok (.ireturn, 1) := by decide +kernel
theorem dX4_excuse_58 : decode cX4_excuse 58 = .ok (.aload_n 0, 1) := by decide +kernel
theorem dX4_excuse_59 : decode cX4_excuse 59 = .ok (.getfield 10, 3) := by decide +kernel
theorem dX4_excuse_62 : decode cX4_excuse 62 = .ok (.getfield 78, 3) := by decide +kernel
theorem dX4_excuse_65 : decode cX4_excuse 65 = .ok (.iload_n 1, 1) := by decide +kernel
theorem dX4_excuse_66 : decode cX4_excuse 66 = .ok (.iaload, 1) := by decide +kernel
theorem dX4_excuse_67 : decode cX4_excuse 67 = .ok (.ireturn, 1) := by decide +kernel
theorem dX4_excuse_68 : decode cX4_excuse 68 = .ok (.aload_n 0, 1) := by decide +kernel
theorem dX4_excuse_69 : decode cX4_excuse 69 = .ok (.getfield 10, 3) := by decide +kernel
theorem dX4_excuse_72 : decode cX4_excuse 72 = .ok (.iload_n 1, 1) := by decide +kernel
theorem dX4_excuse_73 : decode cX4_excuse 73 = .ok (.invokevirtual 131, 3) := by decide +kernel
theorem dX4_excuse_76 : decode cX4_excuse 76 = .ok (.ireturn, 1) := by decide +kernel
theorem dX4_excuse_77 : decode cX4_excuse 77 = .ok (.aload_n 0, 1) := by decide +kernel
theorem dX4_excuse_78 : decode cX4_excuse 78 = .ok (.getfield 10, 3) := by decide +kernel
theorem dX4_excuse_81 : decode cX4_excuse 81 = .ok (.getfield 135, 3) := by decide +kernel
theorem dX4_excuse_84 : decode cX4_excuse 84 = .ok (.iload_n 1, 1) := by decide +kernel
theorem dX4_excuse_85 : decode cX4_excuse 85 = .ok (.iaload, 1) := by decide +kernel
theorem dX4_excuse_86 : decode cX4_excuse 86 = .ok (.ireturn, 1) := by decide +kernel
theorem dX4_excuse_87 : decode cX4_excuse 87 = .ok (.aload_n 0, 1) := by decide +kernel
theorem dX4_excuse_88 : decode cX4_excuse 88 = .ok (.getfield 10, 3) := by decide +kernel
theorem dX4_excuse_91 : decode cX4_excuse 91 = .ok (.iload_n 1, 1) := by decide +kernel
theorem dX4_excuse_92 : decode cX4_excuse 92 = .ok (.invokevirtual 138, 3) := by decide +kernel
theorem dX4_excuse_95 : decode cX4_excuse 95 = .ok (.ireturn, 1) := by decide +kernel
theorem dX4_excuse_96 : decode cX4_excuse 96 = .ok (.bipush (-2), 2) := by decide +kernel
theorem dX4_excuse_98 : decode cX4_excuse 98 = .ok (.ireturn, 1) := by decide +kernel
set_option maxRecDepth 20000 in
theorem ggX4_pupil_X4_isPupil : GoodIn wsX4_pupil wsX4_isPupil := goodIn_r _ [12, 13, 14, 11, 15] (by decide +kernel) (by decide +kernel)
set_option maxRecDepth 20000 in
theorem gX4_pupil_X4_isPupil : GoodIn wsX4_pupil (va_wsS RX4 88 yX4_isPupil wsX4_isPupil) := goodIn_app (goodIn_of _ (by decide +kernel)) ggX4_pupil_X4_isPupil
set_option maxRecDepth 20000 in
theorem ggX4_pupil_X3_usesByPupil : GoodIn wsX4_pupil wsX3_usesByPupil := goodIn_r _ [20, 21, 22, 23, 19, 24, 25, 35, 36, 37, 38, 39, 40, 41, 42, 43, 44, 45, 46, 47, 48, 49] (by decide +kernel) (by decide +kernel)
set_option maxRecDepth 20000 in
theorem gX4_pupil_X3_usesByPupil : GoodIn wsX4_pupil (wsV RX4 153 RX3 yX3_usesByPupil wsX3_usesByPupil) := goodIn_app (goodIn_of _ (by decide +kernel)) ggX4_pupil_X3_usesByPupil
set_option maxRecDepth 20000 in
theorem ggX4_pupil_X4_classOf : GoodIn wsX4_pupil wsX4_classOf := goodIn_r _ [28] (by decide +kernel) (by decide +kernel)
set_option maxRecDepth 20000 in
theorem gX4_pupil_X4_classOf : GoodIn wsX4_pupil (va_wsS RX4 159 yX4_classOf wsX4_classOf) := goodIn_app (goodIn_of _ (by decide +kernel)) ggX4_pupil_X4_classOf
theorem dX4_pupil_0 : decode cX4_pupil 0 = .ok (.iload_n 1, 1) := by decide +kernel
theorem dX4_pupil_1 : decode cX4_pupil 1 = .ok (.invokestatic 88, 3) := by decide +kernel
theorem dX4_pupil_4 : decode cX4_pupil 4 = .ok (.ifCond .ne 5, 3) := by decide +kernel
theorem dX4_pupil_7 : decode cX4_pupil 7 = .ok (.iconst (-1), 1) := by decide +kernel
theorem dX4_pupil_8 : decode cX4_pupil 8 = .ok (.ireturn, 1) := by decide +kernel
theorem dX4_pupil_9 : decode cX4_pupil 9 = .ok (.iload_n 2, 1) := by decide +kernel
theorem dX4_pupil_10 : decode cX4_pupil 10 = .ok (.tableswitch 128 0 7 #[46, 56, 66, 76, 86, 96, 105, 118], 46) := by decide +kernel
theorem dX4_pupil_56 : decode cX4_pupil 56 = .ok (.aload_n 0, 1) := by decide +kernel
theorem dX4_pupil_57 : decode cX4_pupil 57 = .ok (.getfield 10, 3) := by decide +kernel
theorem dX4_pupil_60 : decode cX4_pupil 60 = .ok (.getfield 141, 3) := by decide +kernel
theorem dX4_pupil_63 : decode cX4_pupil 63 = .ok (.iload_n 1, 1) := by decide +kernel
theorem dX4_pupil_64 : decode cX4_pupil 64 = .ok (.iaload, 1) := by decide +kernel
theorem dX4_pupil_65 : decode cX4_pupil 65 = .ok (.ireturn, 1) := by decide +kernel
theorem dX4_pupil_66 : decode cX4_pupil 66 = .ok (.aload_n 0, 1) := by decide +kernel
theorem dX4_pupil_67 : decode cX4_pupil 67 = .ok (.getfield 10, 3) := by decide +kernel
theorem dX4_pupil_70 : decode cX4_pupil 70 = .ok (.getfield 91, 3) := by decide +kernel
theorem dX4_pupil_73 : decode cX4_pupil 73 = .ok (.iload_n 1, 1) := by decide +kernel
theorem dX4_pupil_74 : decode cX4_pupil 74 = .ok (.iaload, 1) := by decide +kernel
theorem dX4_pupil_75 : decode cX4_pupil 75 = .ok (.ireturn, 1) := by decide +kernel
theorem dX4_pupil_76 : decode cX4_pupil 76 = .ok (.aload_n 0, 1) := by decide +kernel
theorem dX4_pupil_77 : decode cX4_pupil 77 = .ok (.getfield 10, 3) := by decide +kernel
theorem dX4_pupil_80 : decode cX4_pupil 80 = .ok (.getfield 144, 3) := by decide +kernel
theorem dX4_pupil_83 : decode cX4_pupil 83 = .ok (.iload_n 1, 1) := by decide +kernel
theorem dX4_pupil_84 : decode cX4_pupil 84 = .ok (.iaload, 1) := by decide +kernel
theorem dX4_pupil_85 : decode cX4_pupil 85 = .ok (.ireturn, 1) := by decide +kernel
theorem dX4_pupil_86 : decode cX4_pupil 86 = .ok (.aload_n 0, 1) := by decide +kernel
theorem dX4_pupil_87 : decode cX4_pupil 87 = .ok (.getfield 10, 3) := by decide +kernel
theorem dX4_pupil_90 : decode cX4_pupil 90 = .ok (.getfield 147, 3) := by decide +kernel
theorem dX4_pupil_93 : decode cX4_pupil 93 = .ok (.iload_n 1, 1) := by decide +kernel
theorem dX4_pupil_94 : decode cX4_pupil 94 = .ok (.iaload, 1) := by decide +kernel
theorem dX4_pupil_95 : decode cX4_pupil 95 = .ok (.ireturn, 1) := by decide +kernel
theorem dX4_pupil_96 : decode cX4_pupil 96 = .ok (.aload_n 0, 1) := by decide +kernel
theorem dX4_pupil_97 : decode cX4_pupil 97 = .ok (.getfield 10, 3) := by decide +kernel
theorem dX4_pupil_100 : decode cX4_pupil 100 = .ok (.getfield 150, 3) := by decide +kernel
theorem dX4_pupil_103 : decode cX4_pupil 103 = .ok (.iload_n 1, 1) := by decide +kernel
theorem dX4_pupil_104 : decode cX4_pupil 104 = .ok (.iaload, 1) := by decide +kernel
theorem dX4_pupil_105 : decode cX4_pupil 105 = .ok (.ireturn, 1) := by decide +kernel
theorem dX4_pupil_106 : decode cX4_pupil 106 = .ok (.aload_n 0, 1) := by decide +kernel
theorem dX4_pupil_107 : decode cX4_pupil 107 = .ok (.getfield 10, 3) := by decide +kernel
theorem dX4_pupil_110 : decode cX4_pupil 110 = .ok (.iload_n 1, 1) := by decide +kernel
theorem dX4_pupil_111 : decode cX4_pupil 111 = .ok (.invokevirtual 153, 3) := by decide +kernel
theorem dX4_pupil_114 : decode cX4_pupil 114 = .ok (.ireturn, 1) := by decide +kernel
theorem dX4_pupil_115 : decode cX4_pupil 115 = .ok (.aload_n 0, 1) := by decide +kernel
theorem dX4_pupil_116 : decode cX4_pupil 116 = .ok (.getfield 10, 3) := by decide +kernel
theorem dX4_pupil_119 : decode cX4_pupil 119 = .ok (.getfield 156, 3) := by decide +kernel
theorem dX4_pupil_122 : decode cX4_pupil 122 = .ok (.iload_n 1, 1) := by decide +kernel
theorem dX4_pupil_123 : decode cX4_pupil 123 = .ok (.invokestatic 159, 3) := by decide +kernel
theorem dX4_pupil_126 : decode cX4_pupil 126 = .ok (.iaload, 1) := by decide +kernel
theorem dX4_pupil_127 : decode cX4_pupil 127 = .ok (.ireturn, 1) := by decide +kernel
theorem dX4_pupil_128 : decode cX4_pupil 128 = .ok (.aload_n 0, 1) := by decide +kernel
theorem dX4_pupil_129 : decode cX4_pupil 129 = .ok (.getfield 10, 3) := by decide +kernel
theorem dX4_pupil_132 : decode cX4_pupil 132 = .ok (.getfield 94, 3) := by decide +kernel
theorem dX4_pupil_135 : decode cX4_pupil 135 = .ok (.iload_n 1, 1) := by decide +kernel
theorem dX4_pupil_136 : decode cX4_pupil 136 = .ok (.iaload, 1) := by decide +kernel
theorem dX4_pupil_137 : decode cX4_pupil 137 = .ok (.ireturn, 1) := by decide +kernel
theorem dX4_pupil_138 : decode cX4_pupil 138 = .ok (.bipush (-2), 2) := by decide +kernel
theorem dX4_pupil_140 : decode cX4_pupil 140 = .ok (.ireturn, 1) := by decide +kernel
set_option maxRecDepth 20000 in
theorem ggX4_novelty_X4_isPupil : GoodIn wsX4_novelty wsX4_isPupil := goodIn_r _ [5, 6, 7, 4, 8] (by decide +kernel) (by decide +kernel)
set_option maxRecDepth 20000 in
theorem gX4_novelty_X4_isPupil : GoodIn wsX4_novelty (va_wsS RX4 88 yX4_isPupil wsX4_isPupil) := goodIn_app (goodIn_of _ (by decide +kernel)) ggX4_novelty_X4_isPupil
set_option maxRecDepth 20000 in
theorem ggX4_novelty_X3_hasExcuse : GoodIn wsX4_novelty wsX3_hasExcuse := goodIn_r _ [13, 14, 41, 42, 43, 44, 45, 46, 47, 48, 49, 50, 51, 52, 53, 54, 55] (by decide +kernel) (by decide +kernel)
set_option maxRecDepth 20000 in
theorem gX4_novelty_X3_hasExcuse : GoodIn wsX4_novelty (wsV RX4 74 RX3 yX3_hasExcuse wsX3_hasExcuse) := goodIn_app (goodIn_of _ (by decide +kernel)) ggX4_novelty_X3_hasExcuse
set_option maxRecDepth 20000 in
theorem ggX4_novelty_X3_noveltyFor : GoodIn wsX4_novelty wsX3_noveltyFor := goodIn_r _ [18, 19, 20, 21, 22, 23, 24, 25, 26, 12, 27, 28, 29, 4, 30, 31, 32, 33, 34, 41, 42, 43, 44, 45, 46, 47, 48, 49, 50, 51, 52, 53, 54, 55] (by decide +kernel) (by decide +kernel)
set_option maxRecDepth 20000 in
theorem gX4_novelty_X3_noveltyFor : GoodIn wsX4_novelty (wsV RX4 162 RX3 yX3_noveltyFor wsX3_noveltyFor) := goodIn_app (goodIn_of _ (by decide +kernel)) ggX4_novelty_X3_noveltyFor
theorem dX4_novelty_0 : decode cX4_novelty 0 = .ok (.iload_n 1, 1) := by decide +kernel
theorem dX4_novelty_1 : decode cX4_novelty 1 = .ok (.invokestatic 88, 3) := by decide +kernel
theorem dX4_novelty_4 : decode cX4_novelty 4 = .ok (.ifCond .eq 14, 3) := by decide +kernel
theorem dX4_novelty_7 : decode cX4_novelty 7 = .ok (.aload_n 0, 1) := by decide +kernel
theorem dX4_novelty_8 : decode cX4_novelty 8 = .ok (.getfield 10, 3) := by decide +kernel
theorem dX4_novelty_11 : decode cX4_novelty 11 = .ok (.iload_n 2, 1) := by decide +kernel
theorem dX4_novelty_12 : decode cX4_novelty 12 = .ok (.invokevirtual 74, 3) := by decide +kernel
theorem dX4_novelty_15 : decode cX4_novelty 15 = .ok (.ifCond .ne 5, 3) := by decide +kernel
theorem dX4_novelty_18 : decode cX4_novelty 18 = .ok (.iconst (-1), 1) := by decide +kernel
theorem dX4_novelty_19 : decode cX4_novelty 19 = .ok (.ireturn, 1) := by decide +kernel
theorem dX4_novelty_20 : decode cX4_novelty 20 = .ok (.aload_n 0, 1) := by decide +kernel
theorem dX4_novelty_21 : decode cX4_novelty 21 = .ok (.getfield 10, 3) := by decide +kernel
theorem dX4_novelty_24 : decode cX4_novelty 24 = .ok (.iload_n 1, 1) := by decide +kernel
theorem dX4_novelty_25 : decode cX4_novelty 25 = .ok (.iload_n 2, 1) := by decide +kernel
theorem dX4_novelty_26 : decode cX4_novelty 26 = .ok (.invokevirtual 162, 3) := by decide +kernel
theorem dX4_novelty_29 : decode cX4_novelty 29 = .ok (.ireturn, 1) := by decide +kernel
set_option maxRecDepth 20000 in
theorem ggX4_why_X4_offerError : GoodIn wsX4_why wsX4_offerError := goodIn_r _ [6, 1, 7, 8, 5, 9, 10, 11, 12, 13, 14, 15, 16, 17, 18, 60, 61, 62, 63, 64, 65, 66, 67, 68, 69, 70, 71, 72, 73, 74, 75, 76, 77, 78, 79, 80] (by decide +kernel) (by decide +kernel)
set_option maxRecDepth 20000 in
theorem gX4_why_X4_offerError : GoodIn wsX4_why (wsV RX4 81 RX4 yX4_offerError wsX4_offerError) := goodIn_app (goodIn_of _ (by decide +kernel)) ggX4_why_X4_offerError
set_option maxRecDepth 20000 in
theorem ggX4_why_X3_reasonAgainst : GoodIn wsX4_why wsX3_reasonAgainst := goodIn_r _ [22, 23, 24, 25, 26, 27, 28, 29, 16, 30, 31, 32, 33, 34, 35, 36, 37, 38, 39, 40, 41, 42, 43, 44, 45, 46, 47, 48, 49, 50, 5, 51, 52, 53, 54, 55, 56, 57, 58, 59, 66, 67, 68, 69, 70, 71, 72, 73, 74, 75, 76, 77, 78, 79, 80] (by decide +kernel) (by decide +kernel)
set_option maxRecDepth 20000 in
theorem gX4_why_X3_reasonAgainst : GoodIn wsX4_why (wsV RX4 165 RX3 yX3_reasonAgainst wsX3_reasonAgainst) := goodIn_app (goodIn_of _ (by decide +kernel)) ggX4_why_X3_reasonAgainst
theorem dX4_why_0 : decode cX4_why 0 = .ok (.aload_n 0, 1) := by decide +kernel
theorem dX4_why_1 : decode cX4_why 1 = .ok (.iload_n 1, 1) := by decide +kernel
theorem dX4_why_2 : decode cX4_why 2 = .ok (.iload_n 2, 1) := by decide +kernel
theorem dX4_why_3 : decode cX4_why 3 = .ok (.iload_n 3, 1) := by decide +kernel
theorem dX4_why_4 : decode cX4_why 4 = .ok (.iload 4, 2) := by decide +kernel
theorem dX4_why_6 : decode cX4_why 6 = .ok (.invokevirtual 81, 3) := by decide +kernel
theorem dX4_why_9 : decode cX4_why 9 = .ok (.istore 5, 2) := by decide +kernel
theorem dX4_why_11 : decode cX4_why 11 = .ok (.iload 5, 2) := by decide +kernel
theorem dX4_why_13 : decode cX4_why 13 = .ok (.ifCond .eq 6, 3) := by decide +kernel
theorem dX4_why_16 : decode cX4_why 16 = .ok (.iload 5, 2) := by decide +kernel
theorem dX4_why_18 : decode cX4_why 18 = .ok (.ireturn, 1) := by decide +kernel
theorem dX4_why_19 : decode cX4_why 19 = .ok (.aload_n 0, 1) := by decide +kernel
theorem dX4_why_20 : decode cX4_why 20 = .ok (.getfield 10, 3) := by decide +kernel
theorem dX4_why_23 : decode cX4_why 23 = .ok (.iload_n 1, 1) := by decide +kernel
theorem dX4_why_24 : decode cX4_why 24 = .ok (.iload_n 2, 1) := by decide +kernel
theorem dX4_why_25 : decode cX4_why 25 = .ok (.iload_n 3, 1) := by decide +kernel
theorem dX4_why_26 : decode cX4_why 26 = .ok (.iload 4, 2) := by decide +kernel
theorem dX4_why_28 : decode cX4_why 28 = .ok (.invokevirtual 165, 3) := by decide +kernel
theorem dX4_why_31 : decode cX4_why 31 = .ok (.ireturn, 1) := by decide +kernel
set_option maxRecDepth 20000 in
theorem ggX4_weight_X4_offerError : GoodIn wsX4_weight wsX4_offerError := goodIn_r _ [6, 1, 7, 8, 5, 9, 10, 11, 12, 13, 14, 15, 16, 17, 18, 50, 51, 52, 53, 54, 55, 56, 57, 58, 59, 60, 61, 62, 63, 64, 65, 66, 67, 68, 69, 70] (by decide +kernel) (by decide +kernel)
set_option maxRecDepth 20000 in
theorem gX4_weight_X4_offerError : GoodIn wsX4_weight (wsV RX4 81 RX4 yX4_offerError wsX4_offerError) := goodIn_app (goodIn_of _ (by decide +kernel)) ggX4_weight_X4_offerError
set_option maxRecDepth 20000 in
theorem ggX4_weight_X3_weightOf : GoodIn wsX4_weight wsX3_weightOf := goodIn_r _ [22, 23, 24, 25, 26, 27, 28, 16, 29, 30, 31, 32, 33, 34, 35, 36, 37, 38, 39, 5, 40, 41, 42, 43, 44, 45, 46, 47, 48, 49, 56, 57, 58, 59, 60, 61, 62, 63, 64, 65, 66, 67, 68, 69, 70] (by decide +kernel) (by decide +kernel)
set_option maxRecDepth 20000 in
theorem gX4_weight_X3_weightOf : GoodIn wsX4_weight (wsV RX4 168 RX3 yX3_weightOf wsX3_weightOf) := goodIn_app (goodIn_of _ (by decide +kernel)) ggX4_weight_X3_weightOf
theorem dX4_weight_0 : decode cX4_weight 0 = .ok (.aload_n 0, 1) := by decide +kernel
theorem dX4_weight_1 : decode cX4_weight 1 = .ok (.iload_n 1, 1) := by decide +kernel
theorem dX4_weight_2 : decode cX4_weight 2 = .ok (.iload_n 2, 1) := by decide +kernel
theorem dX4_weight_3 : decode cX4_weight 3 = .ok (.iload_n 3, 1) := by decide +kernel
theorem dX4_weight_4 : decode cX4_weight 4 = .ok (.iload 4, 2) := by decide +kernel
theorem dX4_weight_6 : decode cX4_weight 6 = .ok (.invokevirtual 81, 3) := by decide +kernel
theorem dX4_weight_9 : decode cX4_weight 9 = .ok (.istore 5, 2) := by decide +kernel
theorem dX4_weight_11 : decode cX4_weight 11 = .ok (.iload 5, 2) := by decide +kernel
theorem dX4_weight_13 : decode cX4_weight 13 = .ok (.ifCond .eq 6, 3) := by decide +kernel
theorem dX4_weight_16 : decode cX4_weight 16 = .ok (.iload 5, 2) := by decide +kernel
theorem dX4_weight_18 : decode cX4_weight 18 = .ok (.ireturn, 1) := by decide +kernel
theorem dX4_weight_19 : decode cX4_weight 19 = .ok (.sipush 1000, 3) := by decide +kernel
theorem dX4_weight_22 : decode cX4_weight 22 = .ok (.aload_n 0, 1) := by decide +kernel
theorem dX4_weight_23 : decode cX4_weight 23 = .ok (.getfield 10, 3) := by decide +kernel
theorem dX4_weight_26 : decode cX4_weight 26 = .ok (.iload_n 1, 1) := by decide +kernel
theorem dX4_weight_27 : decode cX4_weight 27 = .ok (.iload_n 2, 1) := by decide +kernel
theorem dX4_weight_28 : decode cX4_weight 28 = .ok (.iload_n 3, 1) := by decide +kernel
theorem dX4_weight_29 : decode cX4_weight 29 = .ok (.iload 4, 2) := by decide +kernel
theorem dX4_weight_31 : decode cX4_weight 31 = .ok (.invokevirtual 168, 3) := by decide +kernel
theorem dX4_weight_34 : decode cX4_weight 34 = .ok (.iadd, 1) := by decide +kernel
theorem dX4_weight_35 : decode cX4_weight 35 = .ok (.ireturn, 1) := by decide +kernel
set_option maxRecDepth 20000 in
theorem ggX4_count_X4_isWithin : GoodIn wsX4_count wsX4_isWithin := goodIn_r _ [19] (by decide +kernel) (by decide +kernel)
set_option maxRecDepth 20000 in
theorem gX4_count_X4_isWithin : GoodIn wsX4_count (va_wsS RX4 49 yX4_isWithin wsX4_isWithin) := goodIn_app (goodIn_of _ (by decide +kernel)) ggX4_count_X4_isWithin
set_option maxRecDepth 20000 in
theorem ggX4_count_X4_sum : GoodIn wsX4_count wsX4_sum := goodIn_r _ [22] (by decide +kernel) (by decide +kernel)
set_option maxRecDepth 20000 in
theorem gX4_count_X4_sum : GoodIn wsX4_count (va_wsS RX4 100 yX4_sum wsX4_sum) := goodIn_app (goodIn_of _ (by decide +kernel)) ggX4_count_X4_sum
set_option maxRecDepth 20000 in
theorem ggX4_count_X3_wornOutExcuses : GoodIn wsX4_count wsX3_wornOutExcuses := goodIn_r _ [27, 28, 29, 30, 31, 26, 32, 33, 34, 35, 36, 37, 38, 39, 40, 41, 42, 43, 44, 45, 46, 47, 18, 48, 49, 50, 51, 52, 59, 60, 61, 62, 63, 64, 65, 66, 67, 68, 69, 70, 71, 72, 73] (by decide +kernel) (by decide +kernel)
set_option maxRecDepth 20000 in
theorem gX4_count_X3_wornOutExcuses : GoodIn wsX4_count (wsV RX4 177 RX3 yX3_wornOutExcuses wsX3_wornOutExcuses) := goodIn_app (goodIn_of _ (by decide +kernel)) ggX4_count_X3_wornOutExcuses
theorem dX4_count_0 : decode cX4_count 0 = .ok (.iload_n 1, 1) := by decide +kernel
theorem dX4_count_1 : decode cX4_count 1 = .ok (.iconst 0, 1) := by decide +kernel
theorem dX4_count_2 : decode cX4_count 2 = .ok (.getstatic 45, 3) := by decide +kernel
theorem dX4_count_5 : decode cX4_count 5 = .ok (.arraylength, 1) := by decide +kernel
theorem dX4_count_6 : decode cX4_count 6 = .ok (.iconst 1, 1) := by decide +kernel
theorem dX4_count_7 : decode cX4_count 7 = .ok (.isub, 1) := by decide +kernel
theorem dX4_count_8 : decode cX4_count 8 = .ok (.invokestatic 49, 3) := by decide +kernel
theorem dX4_count_11 : decode cX4_count 11 = .ok (.ifCond .eq 13, 3) := by decide +kernel
theorem dX4_count_14 : decode cX4_count 14 = .ok (.aload_n 0, 1) := by decide +kernel
theorem dX4_count_15 : decode cX4_count 15 = .ok (.getfield 10, 3) := by decide +kernel
theorem dX4_count_18 : decode cX4_count 18 = .ok (.getfield 63, 3) := by decide +kernel
theorem dX4_count_21 : decode cX4_count 21 = .ok (.iload_n 1, 1) := by decide +kernel
theorem dX4_count_22 : decode cX4_count 22 = .ok (.iaload, 1) := by decide +kernel
theorem dX4_count_23 : decode cX4_count 23 = .ok (.ireturn, 1) := by decide +kernel
theorem dX4_count_24 : decode cX4_count 24 = .ok (.iload_n 1, 1) := by decide +kernel
theorem dX4_count_25 : decode cX4_count 25 = .ok (.tableswitch 207 5 19 #[75, 83, 94, 94, 94, 94, 109, 120, 131, 153, 161, 172, 183, 191, 199], 75) := by decide +kernel
theorem dX4_count_100 : decode cX4_count 100 = .ok (.aload_n 0, 1) := by decide +kernel
theorem dX4_count_101 : decode cX4_count 101 = .ok (.getfield 10, 3) := by decide +kernel
theorem dX4_count_104 : decode cX4_count 104 = .ok (.getfield 66, 3) := by decide +kernel
theorem dX4_count_107 : decode cX4_count 107 = .ok (.ireturn, 1) := by decide +kernel
theorem dX4_count_108 : decode cX4_count 108 = .ok (.aload_n 0, 1) := by decide +kernel
theorem dX4_count_109 : decode cX4_count 109 = .ok (.getfield 10, 3) := by decide +kernel
theorem dX4_count_112 : decode cX4_count 112 = .ok (.getfield 144, 3) := by decide +kernel
theorem dX4_count_115 : decode cX4_count 115 = .ok (.invokestatic 100, 3) := by decide +kernel
theorem dX4_count_118 : decode cX4_count 118 = .ok (.ireturn, 1) := by decide +kernel
theorem dX4_count_119 : decode cX4_count 119 = .ok (.aload_n 0, 1) := by decide +kernel
theorem dX4_count_120 : decode cX4_count 120 = .ok (.getfield 10, 3) := by decide +kernel
theorem dX4_count_123 : decode cX4_count 123 = .ok (.getfield 171, 3) := by decide +kernel
theorem dX4_count_126 : decode cX4_count 126 = .ok (.iload_n 1, 1) := by decide +kernel
theorem dX4_count_127 : decode cX4_count 127 = .ok (.bipush 7, 2) := by decide +kernel
theorem dX4_count_129 : decode cX4_count 129 = .ok (.isub, 1) := by decide +kernel
theorem dX4_count_130 : decode cX4_count 130 = .ok (.iconst 1, 1) := by decide +kernel
theorem dX4_count_131 : decode cX4_count 131 = .ok (.iadd, 1) := by decide +kernel
theorem dX4_count_132 : decode cX4_count 132 = .ok (.iaload, 1) := by decide +kernel
theorem dX4_count_133 : decode cX4_count 133 = .ok (.ireturn, 1) := by decide +kernel
theorem dX4_count_134 : decode cX4_count 134 = .ok (.aload_n 0, 1) := by decide +kernel
theorem dX4_count_135 : decode cX4_count 135 = .ok (.getfield 10, 3) := by decide +kernel
theorem dX4_count_138 : decode cX4_count 138 = .ok (.getfield 91, 3) := by decide +kernel
theorem dX4_count_141 : decode cX4_count 141 = .ok (.invokestatic 100, 3) := by decide +kernel
theorem dX4_count_144 : decode cX4_count 144 = .ok (.ireturn, 1) := by decide +kernel
theorem dX4_count_145 : decode cX4_count 145 = .ok (.aload_n 0, 1) := by decide +kernel
theorem dX4_count_146 : decode cX4_count 146 = .ok (.getfield 10, 3) := by decide +kernel
theorem dX4_count_149 : decode cX4_count 149 = .ok (.getfield 94, 3) := by decide +kernel
theorem dX4_count_152 : decode cX4_count 152 = .ok (.invokestatic 100, 3) := by decide +kernel
theorem dX4_count_155 : decode cX4_count 155 = .ok (.ireturn, 1) := by decide +kernel
theorem dX4_count_156 : decode cX4_count 156 = .ok (.aload_n 0, 1) := by decide +kernel
theorem dX4_count_157 : decode cX4_count 157 = .ok (.getfield 10, 3) := by decide +kernel
theorem dX4_count_160 : decode cX4_count 160 = .ok (.getfield 91, 3) := by decide +kernel
theorem dX4_count_163 : decode cX4_count 163 = .ok (.invokestatic 100, 3) := by decide +kernel
theorem dX4_count_166 : decode cX4_count 166 = .ok (.aload_n 0, 1) := by decide +kernel
theorem dX4_count_167 : decode cX4_count 167 = .ok (.getfield 10, 3) := by decide +kernel
theorem dX4_count_170 : decode cX4_count 170 = .ok (.getfield 94, 3) := by decide +kernel
theorem dX4_count_173 : decode cX4_count 173 = .ok (.invokestatic 100, 3) := by decide +kernel
theorem dX4_count_176 : decode cX4_count 176 = .ok (.iadd, 1) := by decide +kernel
theorem dX4_count_177 : decode cX4_count 177 = .ok (.ireturn, 1) := by decide +kernel
theorem dX4_count_178 : decode cX4_count 178 = .ok (.aload_n 0, 1) := by decide +kernel
theorem dX4_count_179 : decode cX4_count 179 = .ok (.getfield 10, 3) := by decide +kernel
theorem dX4_count_182 : decode cX4_count 182 = .ok (.getfield 174, 3) := by decide +kernel
theorem dX4_count_185 : decode cX4_count 185 = .ok (.ireturn, 1) := by decide +kernel
theorem dX4_count_186 : decode cX4_count 186 = .ok (.aload_n 0, 1) := by decide +kernel
theorem dX4_count_187 : decode cX4_count 187 = .ok (.getfield 10, 3) := by decide +kernel
theorem dX4_count_190 : decode cX4_count 190 = .ok (.getfield 141, 3) := by decide +kernel
theorem dX4_count_193 : decode cX4_count 193 = .ok (.invokestatic 100, 3) := by decide +kernel
theorem dX4_count_196 : decode cX4_count 196 = .ok (.ireturn, 1) := by decide +kernel
theorem dX4_count_197 : decode cX4_count 197 = .ok (.aload_n 0, 1) := by decide +kernel
theorem dX4_count_198 : decode cX4_count 198 = .ok (.getfield 10, 3) := by decide +kernel
theorem dX4_count_201 : decode cX4_count 201 = .ok (.getfield 156, 3) := by decide +kernel
theorem dX4_count_204 : decode cX4_count 204 = .ok (.invokestatic 100, 3) := by decide +kernel
theorem dX4_count_207 : decode cX4_count 207 = .ok (.ireturn, 1) := by decide +kernel
theorem dX4_count_208 : decode cX4_count 208 = .ok (.aload_n 0, 1) := by decide +kernel
theorem dX4_count_209 : decode cX4_count 209 = .ok (.getfield 10, 3) := by decide +kernel
theorem dX4_count_212 : decode cX4_count 212 = .ok (.invokevirtual 177, 3) := by decide +kernel
theorem dX4_count_215 : decode cX4_count 215 = .ok (.ireturn, 1) := by decide +kernel
theorem dX4_count_216 : decode cX4_count 216 = .ok (.aload_n 0, 1) := by decide +kernel
theorem dX4_count_217 : decode cX4_count 217 = .ok (.getfield 34, 3) := by decide +kernel
theorem dX4_count_220 : decode cX4_count 220 = .ok (.getfield 114, 3) := by decide +kernel
theorem dX4_count_223 : decode cX4_count 223 = .ok (.ireturn, 1) := by decide +kernel
theorem dX4_count_224 : decode cX4_count 224 = .ok (.aload_n 0, 1) := by decide +kernel
theorem dX4_count_225 : decode cX4_count 225 = .ok (.getfield 19, 3) := by decide +kernel
theorem dX4_count_228 : decode cX4_count 228 = .ok (.getfield 180, 3) := by decide +kernel
theorem dX4_count_231 : decode cX4_count 231 = .ok (.ireturn, 1) := by decide +kernel
theorem dX4_count_232 : decode cX4_count 232 = .ok (.bipush (-2), 2) := by decide +kernel
theorem dX4_count_234 : decode cX4_count 234 = .ok (.ireturn, 1) := by decide +kernel
set_option maxRecDepth 20000 in
theorem ggX4_bestExcuse_X4_isPupil : GoodIn wsX4_bestExcuse wsX4_isPupil := goodIn_r _ [6, 7, 8, 5, 9] (by decide +kernel) (by decide +kernel)
set_option maxRecDepth 20000 in
theorem gX4_bestExcuse_X4_isPupil : GoodIn wsX4_bestExcuse (va_wsS RX4 88 yX4_isPupil wsX4_isPupil) := goodIn_app (goodIn_of _ (by decide +kernel)) ggX4_bestExcuse_X4_isPupil
set_option maxRecDepth 20000 in
theorem ggX4_bestExcuse_X4_isWithin : GoodIn wsX4_bestExcuse wsX4_isWithin := goodIn_r _ [9] (by decide +kernel) (by decide +kernel)
set_option maxRecDepth 20000 in
theorem gX4_bestExcuse_X4_isWithin : GoodIn wsX4_bestExcuse (va_wsS RX4 49 yX4_isWithin wsX4_isWithin) := goodIn_app (goodIn_of _ (by decide +kernel)) ggX4_bestExcuse_X4_isWithin
set_option maxRecDepth 20000 in
theorem ggX4_bestExcuse_X3_reasonAgainst : GoodIn wsX4_bestExcuse wsX3_reasonAgainst := goodIn_r _ [14, 15, 16, 17, 18, 19, 20, 21, 13, 22, 23, 24, 25, 26, 27, 28, 29, 30, 31, 32, 33, 34, 35, 36, 37, 38, 39, 40, 41, 42, 5, 43, 44, 45, 46, 47, 48, 49, 50, 51, 59, 60, 61, 62, 63, 64, 65, 66, 67, 68, 69, 70, 71, 72, 73] (by decide +kernel) (by decide +kernel)
set_option maxRecDepth 20000 in
theorem gX4_bestExcuse_X3_reasonAgainst : GoodIn wsX4_bestExcuse (wsV RX4 165 RX3 yX3_reasonAgainst wsX3_reasonAgainst) := goodIn_app (goodIn_of _ (by decide +kernel)) ggX4_bestExcuse_X3_reasonAgainst
set_option maxRecDepth 20000 in
theorem ggX4_bestExcuse_X3_weightOf : GoodIn wsX4_bestExcuse wsX3_weightOf := goodIn_r _ [27, 28, 15, 29, 30, 31, 32, 13, 33, 34, 35, 36, 37, 38, 39, 40, 41, 23, 42, 5, 43, 44, 45, 46, 47, 48, 49, 50, 51, 18, 59, 60, 61, 62, 63, 64, 65, 66, 67, 68, 69, 70, 71, 72, 73] (by decide +kernel) (by decide +kernel)
set_option maxRecDepth 20000 in
theorem gX4_bestExcuse_X3_weightOf : GoodIn wsX4_bestExcuse (wsV RX4 168 RX3 yX3_weightOf wsX3_weightOf) := goodIn_app (goodIn_of _ (by decide +kernel)) ggX4_bestExcuse_X3_weightOf
theorem dX4_bestExcuse_0 : decode cX4_bestExcuse 0 = .ok (.iload_n 1, 1) := by decide +kernel
theorem dX4_bestExcuse_1 : decode cX4_bestExcuse 1 = .ok (.invokestatic 88, 3) := by decide +kernel
theorem dX4_bestExcuse_4 : decode cX4_bestExcuse 4 = .ok (.ifCond .ne 5, 3) := by decide +kernel
theorem dX4_bestExcuse_7 : decode cX4_bestExcuse 7 = .ok (.iconst (-1), 1) := by decide +kernel
theorem dX4_bestExcuse_8 : decode cX4_bestExcuse 8 = .ok (.ireturn, 1) := by decide +kernel
theorem dX4_bestExcuse_9 : decode cX4_bestExcuse 9 = .ok (.iload_n 2, 1) := by decide +kernel
theorem dX4_bestExcuse_10 : decode cX4_bestExcuse 10 = .ok (.iconst 1, 1) := by decide +kernel
theorem dX4_bestExcuse_11 : decode cX4_bestExcuse 11 = .ok (.bipush 99, 2) := by decide +kernel
theorem dX4_bestExcuse_13 : decode cX4_bestExcuse 13 = .ok (.invokestatic 49, 3) := by decide +kernel
theorem dX4_bestExcuse_16 : decode cX4_bestExcuse 16 = .ok (.ifCond .ne 6, 3) := by decide +kernel
theorem dX4_bestExcuse_19 : decode cX4_bestExcuse 19 = .ok (.bipush (-2), 2) := by decide +kernel
theorem dX4_bestExcuse_21 : decode cX4_bestExcuse 21 = .ok (.ireturn, 1) := by decide +kernel
theorem dX4_bestExcuse_22 : decode cX4_bestExcuse 22 = .ok (.bipush (-6), 2) := by decide +kernel
theorem dX4_bestExcuse_24 : decode cX4_bestExcuse 24 = .ok (.istore_n 3, 1) := by decide +kernel
theorem dX4_bestExcuse_25 : decode cX4_bestExcuse 25 = .ok (.iconst 0, 1) := by decide +kernel
theorem dX4_bestExcuse_26 : decode cX4_bestExcuse 26 = .ok (.istore 4, 2) := by decide +kernel
theorem dX4_bestExcuse_28 : decode cX4_bestExcuse 28 = .ok (.iconst 0, 1) := by decide +kernel
theorem dX4_bestExcuse_29 : decode cX4_bestExcuse 29 = .ok (.istore 5, 2) := by decide +kernel
theorem dX4_bestExcuse_31 : decode cX4_bestExcuse 31 = .ok (.iload 5, 2) := by decide +kernel
theorem dX4_bestExcuse_33 : decode cX4_bestExcuse 33 = .ok (.aload_n 0, 1) := by decide +kernel
theorem dX4_bestExcuse_34 : decode cX4_bestExcuse 34 = .ok (.getfield 10, 3) := by decide +kernel
theorem dX4_bestExcuse_37 : decode cX4_bestExcuse 37 = .ok (.getfield 66, 3) := by decide +kernel
theorem dX4_bestExcuse_40 : decode cX4_bestExcuse 40 = .ok (.if_icmp .ge 60, 3) := by decide +kernel
theorem dX4_bestExcuse_43 : decode cX4_bestExcuse 43 = .ok (.aload_n 0, 1) := by decide +kernel
theorem dX4_bestExcuse_44 : decode cX4_bestExcuse 44 = .ok (.getfield 10, 3) := by decide +kernel
theorem dX4_bestExcuse_47 : decode cX4_bestExcuse 47 = .ok (.iload_n 1, 1) := by decide +kernel
theorem dX4_bestExcuse_48 : decode cX4_bestExcuse 48 = .ok (.iload 5, 2) := by decide +kernel
theorem dX4_bestExcuse_50 : decode cX4_bestExcuse 50 = .ok (.bipush (-6), 2) := by decide +kernel
theorem dX4_bestExcuse_52 : decode cX4_bestExcuse 52 = .ok (.iload_n 2, 1) := by decide +kernel
theorem dX4_bestExcuse_53 : decode cX4_bestExcuse 53 = .ok (.invokevirtual 165, 3) := by decide +kernel
theorem dX4_bestExcuse_56 : decode cX4_bestExcuse 56 = .ok (.ifCond .ne 38, 3) := by decide +kernel
theorem dX4_bestExcuse_59 : decode cX4_bestExcuse 59 = .ok (.aload_n 0, 1) := by decide +kernel
theorem dX4_bestExcuse_60 : decode cX4_bestExcuse 60 = .ok (.getfield 10, 3) := by decide +kernel
theorem dX4_bestExcuse_63 : decode cX4_bestExcuse 63 = .ok (.iload_n 1, 1) := by decide +kernel
theorem dX4_bestExcuse_64 : decode cX4_bestExcuse 64 = .ok (.iload 5, 2) := by decide +kernel
theorem dX4_bestExcuse_66 : decode cX4_bestExcuse 66 = .ok (.bipush (-6), 2) := by decide +kernel
theorem dX4_bestExcuse_68 : decode cX4_bestExcuse 68 = .ok (.iload_n 2, 1) := by decide +kernel
theorem dX4_bestExcuse_69 : decode cX4_bestExcuse 69 = .ok (.invokevirtual 168, 3) := by decide +kernel
theorem dX4_bestExcuse_72 : decode cX4_bestExcuse 72 = .ok (.istore 6, 2) := by decide +kernel
theorem dX4_bestExcuse_74 : decode cX4_bestExcuse 74 = .ok (.iload_n 3, 1) := by decide +kernel
theorem dX4_bestExcuse_75 : decode cX4_bestExcuse 75 = .ok (.bipush (-6), 2) := by decide +kernel
theorem dX4_bestExcuse_77 : decode cX4_bestExcuse 77 = .ok (.if_icmp .eq 10, 3) := by decide +kernel
theorem dX4_bestExcuse_80 : decode cX4_bestExcuse 80 = .ok (.iload 6, 2) := by decide +kernel
theorem dX4_bestExcuse_82 : decode cX4_bestExcuse 82 = .ok (.iload 4, 2) := by decide +kernel
theorem dX4_bestExcuse_84 : decode cX4_bestExcuse 84 = .ok (.if_icmp .le 10, 3) := by decide +kernel
theorem dX4_bestExcuse_87 : decode cX4_bestExcuse 87 = .ok (.iload 5, 2) := by decide +kernel
theorem dX4_bestExcuse_89 : decode cX4_bestExcuse 89 = .ok (.istore_n 3, 1) := by decide +kernel
theorem dX4_bestExcuse_90 : decode cX4_bestExcuse 90 = .ok (.iload 6, 2) := by decide +kernel
theorem dX4_bestExcuse_92 : decode cX4_bestExcuse 92 = .ok (.istore 4, 2) := by decide +kernel
theorem dX4_bestExcuse_94 : decode cX4_bestExcuse 94 = .ok (.iinc 5 1, 3) := by decide +kernel
theorem dX4_bestExcuse_97 : decode cX4_bestExcuse 97 = .ok (.goto (-66), 3) := by decide +kernel
theorem dX4_bestExcuse_100 : decode cX4_bestExcuse 100 = .ok (.iload_n 3, 1) := by decide +kernel
theorem dX4_bestExcuse_101 : decode cX4_bestExcuse 101 = .ok (.ireturn, 1) := by decide +kernel
set_option maxRecDepth 20000 in
theorem ggX4_bestWitness_X4_isPupil : GoodIn wsX4_bestWitness wsX4_isPupil := goodIn_r _ [6, 7, 8, 5, 9] (by decide +kernel) (by decide +kernel)
set_option maxRecDepth 20000 in
theorem gX4_bestWitness_X4_isPupil : GoodIn wsX4_bestWitness (va_wsS RX4 88 yX4_isPupil wsX4_isPupil) := goodIn_app (goodIn_of _ (by decide +kernel)) ggX4_bestWitness_X4_isPupil
set_option maxRecDepth 20000 in
theorem ggX4_bestWitness_X3_hasExcuse : GoodIn wsX4_bestWitness wsX3_hasExcuse := goodIn_r _ [14, 15, 53, 54, 55, 56, 57, 58, 59, 60, 61, 62, 63, 64, 65, 66, 67] (by decide +kernel) (by decide +kernel)
set_option maxRecDepth 20000 in
theorem gX4_bestWitness_X3_hasExcuse : GoodIn wsX4_bestWitness (wsV RX4 74 RX3 yX3_hasExcuse wsX3_hasExcuse) := goodIn_app (goodIn_of _ (by decide +kernel)) ggX4_bestWitness_X3_hasExcuse
set_option maxRecDepth 20000 in
theorem ggX4_bestWitness_X4_isWithin : GoodIn wsX4_bestWitness wsX4_isWithin := goodIn_r _ [9] (by decide +kernel) (by decide +kernel)
set_option maxRecDepth 20000 in
theorem gX4_bestWitness_X4_isWithin : GoodIn wsX4_bestWitness (va_wsS RX4 49 yX4_isWithin wsX4_isWithin) := goodIn_app (goodIn_of _ (by decide +kernel)) ggX4_bestWitness_X4_isWithin
set_option maxRecDepth 20000 in
theorem ggX4_bestWitness_X3_weightOf : GoodIn wsX4_bestWitness wsX3_weightOf := goodIn_r _ [19, 20, 21, 22, 23, 24, 25, 13, 26, 27, 28, 29, 30, 31, 32, 33, 34, 35, 36, 5, 37, 38, 39, 40, 41, 42, 43, 44, 45, 46, 53, 54, 55, 56, 57, 58, 59, 60, 61, 62, 63, 64, 65, 66, 67] (by decide +kernel) (by decide +kernel)
set_option maxRecDepth 20000 in
theorem gX4_bestWitness_X3_weightOf : GoodIn wsX4_bestWitness (wsV RX4 168 RX3 yX3_weightOf wsX3_weightOf) := goodIn_app (goodIn_of _ (by decide +kernel)) ggX4_bestWitness_X3_weightOf
theorem dX4_bestWitness_0 : decode cX4_bestWitness 0 = .ok (.iload_n 1, 1) := by decide +kernel
theorem dX4_bestWitness_1 : decode cX4_bestWitness 1 = .ok (.invokestatic 88, 3) := by decide +kernel
theorem dX4_bestWitness_4 : decode cX4_bestWitness 4 = .ok (.ifCond .eq 14, 3) := by decide +kernel
theorem dX4_bestWitness_7 : decode cX4_bestWitness 7 = .ok (.aload_n 0, 1) := by decide +kernel
theorem dX4_bestWitness_8 : decode cX4_bestWitness 8 = .ok (.getfield 10, 3) := by decide +kernel
theorem dX4_bestWitness_11 : decode cX4_bestWitness 11 = .ok (.iload_n 2, 1) := by decide +kernel
theorem dX4_bestWitness_12 : decode cX4_bestWitness 12 = .ok (.invokevirtual 74, 3) := by decide +kernel
theorem dX4_bestWitness_15 : decode cX4_bestWitness 15 = .ok (.ifCond .ne 5, 3) := by decide +kernel
theorem dX4_bestWitness_18 : decode cX4_bestWitness 18 = .ok (.iconst (-1), 1) := by decide +kernel
theorem dX4_bestWitness_19 : decode cX4_bestWitness 19 = .ok (.ireturn, 1) := by decide +kernel
theorem dX4_bestWitness_20 : decode cX4_bestWitness 20 = .ok (.iload_n 3, 1) := by decide +kernel
theorem dX4_bestWitness_21 : decode cX4_bestWitness 21 = .ok (.iconst 1, 1) := by decide +kernel
theorem dX4_bestWitness_22 : decode cX4_bestWitness 22 = .ok (.bipush 99, 2) := by decide +kernel
theorem dX4_bestWitness_24 : decode cX4_bestWitness 24 = .ok (.invokestatic 49, 3) := by decide +kernel
theorem dX4_bestWitness_27 : decode cX4_bestWitness 27 = .ok (.ifCond .ne 6, 3) := by decide +kernel
theorem dX4_bestWitness_30 : decode cX4_bestWitness 30 = .ok (.bipush (-2), 2) := by decide +kernel
theorem dX4_bestWitness_32 : decode cX4_bestWitness 32 = .ok (.ireturn, 1) := by decide +kernel
theorem dX4_bestWitness_33 : decode cX4_bestWitness 33 = .ok (.bipush (-6), 2) := by decide +kernel
theorem dX4_bestWitness_35 : decode cX4_bestWitness 35 = .ok (.istore 4, 2) := by decide +kernel
theorem dX4_bestWitness_37 : decode cX4_bestWitness 37 = .ok (.iconst 0, 1) := by decide +kernel
theorem dX4_bestWitness_38 : decode cX4_bestWitness 38 = .ok (.istore 5, 2) := by decide +kernel
theorem dX4_bestWitness_40 : decode cX4_bestWitness 40 = .ok (.iconst 0, 1) := by decide +kernel
theorem dX4_bestWitness_41 : decode cX4_bestWitness 41 = .ok (.istore 6, 2) := by decide +kernel
theorem dX4_bestWitness_43 : decode cX4_bestWitness 43 = .ok (.iload 6, 2) := by decide +kernel
theorem dX4_bestWitness_45 : decode cX4_bestWitness 45 = .ok (.bipush 10, 2) := by decide +kernel
theorem dX4_bestWitness_47 : decode cX4_bestWitness 47 = .ok (.if_icmp .ge 64, 3) := by decide +kernel
theorem dX4_bestWitness_50 : decode cX4_bestWitness 50 = .ok (.iload 6, 2) := by decide +kernel
theorem dX4_bestWitness_52 : decode cX4_bestWitness 52 = .ok (.iload_n 1, 1) := by decide +kernel
theorem dX4_bestWitness_53 : decode cX4_bestWitness 53 = .ok (.if_icmp .eq 52, 3) := by decide +kernel
theorem dX4_bestWitness_56 : decode cX4_bestWitness 56 = .ok (.aload_n 0, 1) := by decide +kernel
theorem dX4_bestWitness_57 : decode cX4_bestWitness 57 = .ok (.getfield 10, 3) := by decide +kernel
theorem dX4_bestWitness_60 : decode cX4_bestWitness 60 = .ok (.getfield 141, 3) := by decide +kernel
theorem dX4_bestWitness_63 : decode cX4_bestWitness 63 = .ok (.iload 6, 2) := by decide +kernel
theorem dX4_bestWitness_65 : decode cX4_bestWitness 65 = .ok (.iaload, 1) := by decide +kernel
theorem dX4_bestWitness_66 : decode cX4_bestWitness 66 = .ok (.ifCond .le 39, 3) := by decide +kernel
theorem dX4_bestWitness_69 : decode cX4_bestWitness 69 = .ok (.aload_n 0, 1) := by decide +kernel
theorem dX4_bestWitness_70 : decode cX4_bestWitness 70 = .ok (.getfield 10, 3) := by decide +kernel
theorem dX4_bestWitness_73 : decode cX4_bestWitness 73 = .ok (.iload_n 1, 1) := by decide +kernel
theorem dX4_bestWitness_74 : decode cX4_bestWitness 74 = .ok (.iload_n 2, 1) := by decide +kernel
theorem dX4_bestWitness_75 : decode cX4_bestWitness 75 = .ok (.iload 6, 2) := by decide +kernel
theorem dX4_bestWitness_77 : decode cX4_bestWitness 77 = .ok (.iload_n 3, 1) := by decide +kernel
theorem dX4_bestWitness_78 : decode cX4_bestWitness 78 = .ok (.invokevirtual 168, 3) := by decide +kernel
theorem dX4_bestWitness_81 : decode cX4_bestWitness 81 = .ok (.istore 7, 2) := by decide +kernel
theorem dX4_bestWitness_83 : decode cX4_bestWitness 83 = .ok (.iload 4, 2) := by decide +kernel
theorem dX4_bestWitness_85 : decode cX4_bestWitness 85 = .ok (.bipush (-6), 2) := by decide +kernel
theorem dX4_bestWitness_87 : decode cX4_bestWitness 87 = .ok (.if_icmp .eq 10, 3) := by decide +kernel
theorem dX4_bestWitness_90 : decode cX4_bestWitness 90 = .ok (.iload 7, 2) := by decide +kernel
theorem dX4_bestWitness_92 : decode cX4_bestWitness 92 = .ok (.iload 5, 2) := by decide +kernel
theorem dX4_bestWitness_94 : decode cX4_bestWitness 94 = .ok (.if_icmp .le 11, 3) := by decide +kernel
theorem dX4_bestWitness_97 : decode cX4_bestWitness 97 = .ok (.iload 6, 2) := by decide +kernel
theorem dX4_bestWitness_99 : decode cX4_bestWitness 99 = .ok (.istore 4, 2) := by decide +kernel
theorem dX4_bestWitness_101 : decode cX4_bestWitness 101 = .ok (.iload 7, 2) := by decide +kernel
theorem dX4_bestWitness_103 : decode cX4_bestWitness 103 = .ok (.istore 5, 2) := by decide +kernel
theorem dX4_bestWitness_105 : decode cX4_bestWitness 105 = .ok (.iinc 6 1, 3) := by decide +kernel
theorem dX4_bestWitness_108 : decode cX4_bestWitness 108 = .ok (.goto (-65), 3) := by decide +kernel
theorem dX4_bestWitness_111 : decode cX4_bestWitness 111 = .ok (.iload 4, 2) := by decide +kernel
theorem dX4_bestWitness_113 : decode cX4_bestWitness 113 = .ok (.ireturn, 1) := by decide +kernel
set_option maxRecDepth 20000 in
theorem ggX4_mostMinutes_X4_isPupil : GoodIn wsX4_mostMinutes wsX4_isPupil := goodIn_r _ [5, 6, 7, 4, 8] (by decide +kernel) (by decide +kernel)
set_option maxRecDepth 20000 in
theorem gX4_mostMinutes_X4_isPupil : GoodIn wsX4_mostMinutes (va_wsS RX4 88 yX4_isPupil wsX4_isPupil) := goodIn_app (goodIn_of _ (by decide +kernel)) ggX4_mostMinutes_X4_isPupil
set_option maxRecDepth 20000 in
theorem ggX4_mostMinutes_X3_hasExcuse : GoodIn wsX4_mostMinutes wsX3_hasExcuse := goodIn_r _ [13, 14, 62, 63, 64, 65, 66, 67, 68, 69, 70, 71, 72, 73, 74, 75, 76] (by decide +kernel) (by decide +kernel)
set_option maxRecDepth 20000 in
theorem gX4_mostMinutes_X3_hasExcuse : GoodIn wsX4_mostMinutes (wsV RX4 74 RX3 yX3_hasExcuse wsX3_hasExcuse) := goodIn_app (goodIn_of _ (by decide +kernel)) ggX4_mostMinutes_X3_hasExcuse
set_option maxRecDepth 20000 in
theorem ggX4_mostMinutes_X3_reasonAgainst : GoodIn wsX4_mostMinutes wsX3_reasonAgainst := goodIn_r _ [18, 19, 20, 21, 22, 23, 24, 25, 12, 26, 27, 28, 29, 30, 31, 32, 33, 34, 35, 36, 37, 38, 39, 40, 41, 42, 43, 44, 45, 46, 4, 47, 48, 49, 50, 51, 52, 53, 54, 55, 62, 63, 64, 65, 66, 67, 68, 69, 70, 71, 72, 73, 74, 75, 76] (by decide +kernel) (by decide +kernel)
set_option maxRecDepth 20000 in
theorem gX4_mostMinutes_X3_reasonAgainst : GoodIn wsX4_mostMinutes (wsV RX4 165 RX3 yX3_reasonAgainst wsX3_reasonAgainst) := goodIn_app (goodIn_of _ (by decide +kernel)) ggX4_mostMinutes_X3_reasonAgainst
theorem dX4_mostMinutes_0 : decode cX4_mostMinutes 0 = .ok (.iload_n 1, 1) := by decide +kernel
theorem dX4_mostMinutes_1 : decode cX4_mostMinutes 1 = .ok (.invokestatic 88, 3) := by decide +kernel
theorem dX4_mostMinutes_4 : decode cX4_mostMinutes 4 = .ok (.ifCond .eq 14, 3) := by decide +kernel
theorem dX4_mostMinutes_7 : decode cX4_mostMinutes 7 = .ok (.aload_n 0, 1) := by decide +kernel
theorem dX4_mostMinutes_8 : decode cX4_mostMinutes 8 = .ok (.getfield 10, 3) := by decide +kernel
theorem dX4_mostMinutes_11 : decode cX4_mostMinutes 11 = .ok (.iload_n 2, 1) := by decide +kernel
theorem dX4_mostMinutes_12 : decode cX4_mostMinutes 12 = .ok (.invokevirtual 74, 3) := by decide +kernel
theorem dX4_mostMinutes_15 : decode cX4_mostMinutes 15 = .ok (.ifCond .ne 5, 3) := by decide +kernel
theorem dX4_mostMinutes_18 : decode cX4_mostMinutes 18 = .ok (.iconst (-1), 1) := by decide +kernel
theorem dX4_mostMinutes_19 : decode cX4_mostMinutes 19 = .ok (.ireturn, 1) := by decide +kernel
theorem dX4_mostMinutes_20 : decode cX4_mostMinutes 20 = .ok (.bipush 99, 2) := by decide +kernel
theorem dX4_mostMinutes_22 : decode cX4_mostMinutes 22 = .ok (.istore_n 3, 1) := by decide +kernel
theorem dX4_mostMinutes_23 : decode cX4_mostMinutes 23 = .ok (.iload_n 3, 1) := by decide +kernel
theorem dX4_mostMinutes_24 : decode cX4_mostMinutes 24 = .ok (.iconst 1, 1) := by decide +kernel
theorem dX4_mostMinutes_25 : decode cX4_mostMinutes 25 = .ok (.if_icmp .lt 26, 3) := by decide +kernel
theorem dX4_mostMinutes_28 : decode cX4_mostMinutes 28 = .ok (.aload_n 0, 1) := by decide +kernel
theorem dX4_mostMinutes_29 : decode cX4_mostMinutes 29 = .ok (.getfield 10, 3) := by decide +kernel
theorem dX4_mostMinutes_32 : decode cX4_mostMinutes 32 = .ok (.iload_n 1, 1) := by decide +kernel
theorem dX4_mostMinutes_33 : decode cX4_mostMinutes 33 = .ok (.iload_n 2, 1) := by decide +kernel
theorem dX4_mostMinutes_34 : decode cX4_mostMinutes 34 = .ok (.bipush (-6), 2) := by decide +kernel
theorem dX4_mostMinutes_36 : decode cX4_mostMinutes 36 = .ok (.iload_n 3, 1) := by decide +kernel
theorem dX4_mostMinutes_37 : decode cX4_mostMinutes 37 = .ok (.invokevirtual 165, 3) := by decide +kernel
theorem dX4_mostMinutes_40 : decode cX4_mostMinutes 40 = .ok (.ifCond .ne 5, 3) := by decide +kernel
theorem dX4_mostMinutes_43 : decode cX4_mostMinutes 43 = .ok (.iload_n 3, 1) := by decide +kernel
theorem dX4_mostMinutes_44 : decode cX4_mostMinutes 44 = .ok (.ireturn, 1) := by decide +kernel
theorem dX4_mostMinutes_45 : decode cX4_mostMinutes 45 = .ok (.iinc 3 (-1), 3) := by decide +kernel
theorem dX4_mostMinutes_48 : decode cX4_mostMinutes 48 = .ok (.goto (-25), 3) := by decide +kernel
theorem dX4_mostMinutes_51 : decode cX4_mostMinutes 51 = .ok (.bipush (-6), 2) := by decide +kernel
theorem dX4_mostMinutes_53 : decode cX4_mostMinutes 53 = .ok (.ireturn, 1) := by decide +kernel
set_option maxRecDepth 20000 in
theorem ggX4_put_X4_charactersIn : GoodIn wsX4_put wsX4_charactersIn := goodIn_r _ [6, 7, 8, 5, 9, 10, 11, 12] (by decide +kernel) (by decide +kernel)
set_option maxRecDepth 20000 in
theorem gX4_put_X4_charactersIn : GoodIn wsX4_put (va_wsS RX4 183 yX4_charactersIn wsX4_charactersIn) := goodIn_app (goodIn_of _ (by decide +kernel)) ggX4_put_X4_charactersIn
set_option maxRecDepth 20000 in
theorem ggX4_put_X4_codeAt : GoodIn wsX4_put wsX4_codeAt := goodIn_r _ [9] (by decide +kernel) (by decide +kernel)
set_option maxRecDepth 20000 in
theorem gX4_put_X4_codeAt : GoodIn wsX4_put (va_wsS RX4 187 yX4_codeAt wsX4_codeAt) := goodIn_app (goodIn_of _ (by decide +kernel)) ggX4_put_X4_codeAt
set_option maxRecDepth 20000 in
theorem ggX4_put_X1_append : GoodIn wsX4_put wsX1_append := goodIn_r _ [17, 18, 19, 26, 27] (by decide +kernel) (by decide +kernel)
set_option maxRecDepth 20000 in
theorem gX4_put_X1_append : GoodIn wsX4_put (wsV RX4 191 RX1 yX1_append wsX1_append) := goodIn_app (goodIn_of _ (by decide +kernel)) ggX4_put_X1_append
theorem dX4_put_0 : decode cX4_put 0 = .ok (.lload_n 1, 1) := by decide +kernel
theorem dX4_put_1 : decode cX4_put 1 = .ok (.invokestatic 183, 3) := by decide +kernel
theorem dX4_put_4 : decode cX4_put 4 = .ok (.istore_n 3, 1) := by decide +kernel
theorem dX4_put_5 : decode cX4_put 5 = .ok (.iload_n 3, 1) := by decide +kernel
theorem dX4_put_6 : decode cX4_put 6 = .ok (.ifCond .ne 6, 3) := by decide +kernel
theorem dX4_put_9 : decode cX4_put 9 = .ok (.bipush (-2), 2) := by decide +kernel
theorem dX4_put_11 : decode cX4_put 11 = .ok (.ireturn, 1) := by decide +kernel
theorem dX4_put_12 : decode cX4_put 12 = .ok (.aload_n 0, 1) := by decide +kernel
theorem dX4_put_13 : decode cX4_put 13 = .ok (.getfield 34, 3) := by decide +kernel
theorem dX4_put_16 : decode cX4_put 16 = .ok (.getfield 114, 3) := by decide +kernel
theorem dX4_put_19 : decode cX4_put 19 = .ok (.iload_n 3, 1) := by decide +kernel
theorem dX4_put_20 : decode cX4_put 20 = .ok (.iadd, 1) := by decide +kernel
theorem dX4_put_21 : decode cX4_put 21 = .ok (.bipush 60, 2) := by decide +kernel
theorem dX4_put_23 : decode cX4_put 23 = .ok (.if_icmp .le 6, 3) := by decide +kernel
theorem dX4_put_26 : decode cX4_put 26 = .ok (.bipush (-4), 2) := by decide +kernel
theorem dX4_put_28 : decode cX4_put 28 = .ok (.ireturn, 1) := by decide +kernel
theorem dX4_put_29 : decode cX4_put 29 = .ok (.iload_n 3, 1) := by decide +kernel
theorem dX4_put_30 : decode cX4_put 30 = .ok (.iconst 1, 1) := by decide +kernel
theorem dX4_put_31 : decode cX4_put 31 = .ok (.isub, 1) := by decide +kernel
theorem dX4_put_32 : decode cX4_put 32 = .ok (.istore 4, 2) := by decide +kernel
theorem dX4_put_34 : decode cX4_put 34 = .ok (.iload 4, 2) := by decide +kernel
theorem dX4_put_36 : decode cX4_put 36 = .ok (.ifCond .lt 23, 3) := by decide +kernel
theorem dX4_put_39 : decode cX4_put 39 = .ok (.aload_n 0, 1) := by decide +kernel
theorem dX4_put_40 : decode cX4_put 40 = .ok (.getfield 34, 3) := by decide +kernel
theorem dX4_put_43 : decode cX4_put 43 = .ok (.lload_n 1, 1) := by decide +kernel
theorem dX4_put_44 : decode cX4_put 44 = .ok (.iload 4, 2) := by decide +kernel
theorem dX4_put_46 : decode cX4_put 46 = .ok (.invokestatic 187, 3) := by decide +kernel
theorem dX4_put_49 : decode cX4_put 49 = .ok (.i2c, 1) := by decide +kernel
theorem dX4_put_50 : decode cX4_put 50 = .ok (.invokevirtual 191, 3) := by decide +kernel
theorem dX4_put_53 : decode cX4_put 53 = .ok (.iinc 4 (-1), 3) := by decide +kernel
theorem dX4_put_56 : decode cX4_put 56 = .ok (.goto (-22), 3) := by decide +kernel
theorem dX4_put_59 : decode cX4_put 59 = .ok (.aload_n 0, 1) := by decide +kernel
theorem dX4_put_60 : decode cX4_put 60 = .ok (.getfield 34, 3) := by decide +kernel
theorem dX4_put_63 : decode cX4_put 63 = .ok (.getfield 114, 3) := by decide +kernel
theorem dX4_put_66 : decode cX4_put 66 = .ok (.ireturn, 1) := by decide +kernel
theorem dX4_wipe_0 : decode cX4_wipe 0 = .ok (.aload_n 0, 1) := by decide +kernel
theorem dX4_wipe_1 : decode cX4_wipe 1 = .ok (.getfield 34, 3) := by decide +kernel
theorem dX4_wipe_4 : decode cX4_wipe 4 = .ok (.getfield 114, 3) := by decide +kernel
theorem dX4_wipe_7 : decode cX4_wipe 7 = .ok (.istore_n 1, 1) := by decide +kernel
theorem dX4_wipe_8 : decode cX4_wipe 8 = .ok (.aload_n 0, 1) := by decide +kernel
theorem dX4_wipe_9 : decode cX4_wipe 9 = .ok (.getfield 34, 3) := by decide +kernel
theorem dX4_wipe_12 : decode cX4_wipe 12 = .ok (.iconst 0, 1) := by decide +kernel
theorem dX4_wipe_13 : decode cX4_wipe 13 = .ok (.putfield 114, 3) := by decide +kernel
theorem dX4_wipe_16 : decode cX4_wipe 16 = .ok (.iload_n 1, 1) := by decide +kernel
theorem dX4_wipe_17 : decode cX4_wipe 17 = .ok (.ireturn, 1) := by decide +kernel
set_option maxRecDepth 20000 in
theorem ggX4_fault_X2_begin : GoodIn wsX4_fault wsX2_begin := goodIn_r _ [9, 10, 11, 65, 66, 67, 68, 69] (by decide +kernel) (by decide +kernel)
set_option maxRecDepth 20000 in
theorem gX4_fault_X2_begin : GoodIn wsX4_fault (wsV RX4 111 RX2 yX2_begin wsX2_begin) := goodIn_app (goodIn_of _ (by decide +kernel)) ggX4_fault_X2_begin
set_option maxRecDepth 20000 in
theorem ggX4_fault_X2_takes : GoodIn wsX4_fault wsX2_takes := goodIn_r _ [15, 10, 16, 17, 18, 19, 8, 20, 21, 22, 23, 24, 25, 26, 27, 28, 29, 30, 31, 32, 33, 34, 35, 36, 37, 38, 39, 40, 41, 42, 43, 44, 45, 46, 47, 48, 11, 49, 50, 51, 52, 65, 66, 67, 68, 69] (by decide +kernel) (by decide +kernel)
set_option maxRecDepth 20000 in
theorem gX4_fault_X2_takes : GoodIn wsX4_fault (wsV RX4 124 RX2 yX2_takes wsX2_takes) := goodIn_app (goodIn_of _ (by decide +kernel)) ggX4_fault_X2_takes
set_option maxRecDepth 20000 in
theorem ggX4_fault_X2_canEnd : GoodIn wsX4_fault wsX2_canEnd := goodIn_r _ [56, 10, 65, 66, 67, 68, 69] (by decide +kernel) (by decide +kernel)
set_option maxRecDepth 20000 in
theorem gX4_fault_X2_canEnd : GoodIn wsX4_fault (wsV RX4 195 RX2 yX2_canEnd wsX2_canEnd) := goodIn_app (goodIn_of _ (by decide +kernel)) ggX4_fault_X2_canEnd
theorem dX4_fault_0 : decode cX4_fault 0 = .ok (.aload_n 0, 1) := by decide +kernel
theorem dX4_fault_1 : decode cX4_fault 1 = .ok (.getfield 41, 3) := by decide +kernel
theorem dX4_fault_4 : decode cX4_fault 4 = .ok (.invokevirtual 111, 3) := by decide +kernel
theorem dX4_fault_7 : decode cX4_fault 7 = .ok (.iconst 0, 1) := by decide +kernel
theorem dX4_fault_8 : decode cX4_fault 8 = .ok (.istore_n 1, 1) := by decide +kernel
theorem dX4_fault_9 : decode cX4_fault 9 = .ok (.iload_n 1, 1) := by decide +kernel
theorem dX4_fault_10 : decode cX4_fault 10 = .ok (.aload_n 0, 1) := by decide +kernel
theorem dX4_fault_11 : decode cX4_fault 11 = .ok (.getfield 34, 3) := by decide +kernel
theorem dX4_fault_14 : decode cX4_fault 14 = .ok (.getfield 114, 3) := by decide +kernel
theorem dX4_fault_17 : decode cX4_fault 17 = .ok (.if_icmp .ge 30, 3) := by decide +kernel
theorem dX4_fault_20 : decode cX4_fault 20 = .ok (.aload_n 0, 1) := by decide +kernel
theorem dX4_fault_21 : decode cX4_fault 21 = .ok (.getfield 41, 3) := by decide +kernel
theorem dX4_fault_24 : decode cX4_fault 24 = .ok (.aload_n 0, 1) := by decide +kernel
theorem dX4_fault_25 : decode cX4_fault 25 = .ok (.getfield 34, 3) := by decide +kernel
theorem dX4_fault_28 : decode cX4_fault 28 = .ok (.getfield 117, 3) := by decide +kernel
theorem dX4_fault_31 : decode cX4_fault 31 = .ok (.iload_n 1, 1) := by decide +kernel
theorem dX4_fault_32 : decode cX4_fault 32 = .ok (.caload, 1) := by decide +kernel
theorem dX4_fault_33 : decode cX4_fault 33 = .ok (.invokevirtual 124, 3) := by decide +kernel
theorem dX4_fault_36 : decode cX4_fault 36 = .ok (.ifCond .ne 5, 3) := by decide +kernel
theorem dX4_fault_39 : decode cX4_fault 39 = .ok (.iload_n 1, 1) := by decide +kernel
theorem dX4_fault_40 : decode cX4_fault 40 = .ok (.ireturn, 1) := by decide +kernel
theorem dX4_fault_41 : decode cX4_fault 41 = .ok (.iinc 1 1, 3) := by decide +kernel
theorem dX4_fault_44 : decode cX4_fault 44 = .ok (.goto (-35), 3) := by decide +kernel
theorem dX4_fault_47 : decode cX4_fault 47 = .ok (.aload_n 0, 1) := by decide +kernel
theorem dX4_fault_48 : decode cX4_fault 48 = .ok (.getfield 41, 3) := by decide +kernel
theorem dX4_fault_51 : decode cX4_fault 51 = .ok (.invokevirtual 195, 3) := by decide +kernel
theorem dX4_fault_54 : decode cX4_fault 54 = .ok (.ifCond .eq 8, 3) := by decide +kernel
theorem dX4_fault_57 : decode cX4_fault 57 = .ok (.bipush (-6), 2) := by decide +kernel
theorem dX4_fault_59 : decode cX4_fault 59 = .ok (.goto 10, 3) := by decide +kernel
theorem dX4_fault_62 : decode cX4_fault 62 = .ok (.aload_n 0, 1) := by decide +kernel
theorem dX4_fault_63 : decode cX4_fault 63 = .ok (.getfield 34, 3) := by decide +kernel
theorem dX4_fault_66 : decode cX4_fault 66 = .ok (.getfield 114, 3) := by decide +kernel
theorem dX4_fault_69 : decode cX4_fault 69 = .ok (.ireturn, 1) := by decide +kernel
set_option maxRecDepth 20000 in
theorem ggX4_undo_X0_takeBack : GoodIn wsX4_undo wsX0_takeBack := goodIn_r _ [8, 9, 10, 11, 12, 13, 14, 15, 16, 17, 18, 19, 20, 21, 22, 23, 24, 25, 26, 27, 28, 29, 30, 31, 32, 33, 34, 35, 36, 37, 38, 39, 40, 41, 42, 49, 50, 51, 52, 53, 54, 55, 56, 57, 58, 59, 60, 61, 62, 63, 64, 65, 66] (by decide +kernel) (by decide +kernel)
set_option maxRecDepth 20000 in
theorem gX4_undo_X0_takeBack : GoodIn wsX4_undo (wsV RX4 199 RX0 yX0_takeBack wsX0_takeBack) := goodIn_app (goodIn_of _ (by decide +kernel)) ggX4_undo_X0_takeBack
theorem dX4_undo_0 : decode cX4_undo 0 = .ok (.aload_n 0, 1) := by decide +kernel
theorem dX4_undo_1 : decode cX4_undo 1 = .ok (.getfield 19, 3) := by decide +kernel
theorem dX4_undo_4 : decode cX4_undo 4 = .ok (.getfield 180, 3) := by decide +kernel
theorem dX4_undo_7 : decode cX4_undo 7 = .ok (.ifCond .ne 6, 3) := by decide +kernel
theorem dX4_undo_10 : decode cX4_undo 10 = .ok (.bipush (-5), 2) := by decide +kernel
theorem dX4_undo_12 : decode cX4_undo 12 = .ok (.ireturn, 1) := by decide +kernel
theorem dX4_undo_13 : decode cX4_undo 13 = .ok (.aload_n 0, 1) := by decide +kernel
theorem dX4_undo_14 : decode cX4_undo 14 = .ok (.getfield 19, 3) := by decide +kernel
theorem dX4_undo_17 : decode cX4_undo 17 = .ok (.aload_n 0, 1) := by decide +kernel
theorem dX4_undo_18 : decode cX4_undo 18 = .ok (.getfield 10, 3) := by decide +kernel
theorem dX4_undo_21 : decode cX4_undo 21 = .ok (.invokevirtual 199, 3) := by decide +kernel
theorem dX4_undo_24 : decode cX4_undo 24 = .ok (.aload_n 0, 1) := by decide +kernel
theorem dX4_undo_25 : decode cX4_undo 25 = .ok (.getfield 19, 3) := by decide +kernel
theorem dX4_undo_28 : decode cX4_undo 28 = .ok (.getfield 180, 3) := by decide +kernel
theorem dX4_undo_31 : decode cX4_undo 31 = .ok (.ireturn, 1) := by decide +kernel
set_option maxRecDepth 20000 in
theorem ggX4_save_X4_isWithin : GoodIn wsX4_save wsX4_isWithin := goodIn_r _ [8] (by decide +kernel) (by decide +kernel)
set_option maxRecDepth 20000 in
theorem gX4_save_X4_isWithin : GoodIn wsX4_save (va_wsS RX4 49 yX4_isWithin wsX4_isWithin) := goodIn_app (goodIn_of _ (by decide +kernel)) ggX4_save_X4_isWithin
set_option maxRecDepth 20000 in
theorem ggX4_save_X3_become : GoodIn wsX4_save wsX3_become := goodIn_r _ [13, 14, 15, 16, 17, 18, 19, 20, 21, 22, 23, 24, 25, 26, 27, 28, 29, 7, 30, 31, 32, 33, 34, 35, 36, 37, 38, 45, 46, 47, 48, 49, 50, 51, 52, 53, 54, 55, 56, 57, 58, 59] (by decide +kernel) (by decide +kernel)
set_option maxRecDepth 20000 in
theorem gX4_save_X3_become : GoodIn wsX4_save (wsV RX4 202 RX3 yX3_become wsX3_become) := goodIn_app (goodIn_of _ (by decide +kernel)) ggX4_save_X3_become
theorem dX4_save_0 : decode cX4_save 0 = .ok (.iload_n 1, 1) := by decide +kernel
theorem dX4_save_1 : decode cX4_save 1 = .ok (.iconst 0, 1) := by decide +kernel
theorem dX4_save_2 : decode cX4_save 2 = .ok (.iconst 1, 1) := by decide +kernel
theorem dX4_save_3 : decode cX4_save 3 = .ok (.invokestatic 49, 3) := by decide +kernel
theorem dX4_save_6 : decode cX4_save 6 = .ok (.ifCond .ne 6, 3) := by decide +kernel
theorem dX4_save_9 : decode cX4_save 9 = .ok (.bipush (-2), 2) := by decide +kernel
theorem dX4_save_11 : decode cX4_save 11 = .ok (.ireturn, 1) := by decide +kernel
theorem dX4_save_12 : decode cX4_save 12 = .ok (.aload_n 0, 1) := by decide +kernel
theorem dX4_save_13 : decode cX4_save 13 = .ok (.getfield 23, 3) := by decide +kernel
theorem dX4_save_16 : decode cX4_save 16 = .ok (.iload_n 1, 1) := by decide +kernel
theorem dX4_save_17 : decode cX4_save 17 = .ok (.aaload, 1) := by decide +kernel
theorem dX4_save_18 : decode cX4_save 18 = .ok (.aload_n 0, 1) := by decide +kernel
theorem dX4_save_19 : decode cX4_save 19 = .ok (.getfield 10, 3) := by decide +kernel
theorem dX4_save_22 : decode cX4_save 22 = .ok (.invokevirtual 202, 3) := by decide +kernel
theorem dX4_save_25 : decode cX4_save 25 = .ok (.aload_n 0, 1) := by decide +kernel
theorem dX4_save_26 : decode cX4_save 26 = .ok (.getfield 27, 3) := by decide +kernel
theorem dX4_save_29 : decode cX4_save 29 = .ok (.iload_n 1, 1) := by decide +kernel
theorem dX4_save_30 : decode cX4_save 30 = .ok (.iconst 1, 1) := by decide +kernel
theorem dX4_save_31 : decode cX4_save 31 = .ok (.bastore, 1) := by decide +kernel
theorem dX4_save_32 : decode cX4_save 32 = .ok (.aload_n 0, 1) := by decide +kernel
theorem dX4_save_33 : decode cX4_save 33 = .ok (.getfield 10, 3) := by decide +kernel
theorem dX4_save_36 : decode cX4_save 36 = .ok (.getfield 174, 3) := by decide +kernel
theorem dX4_save_39 : decode cX4_save 39 = .ok (.ireturn, 1) := by decide +kernel
set_option maxRecDepth 20000 in
theorem ggX4_restore_X4_isWithin : GoodIn wsX4_restore wsX4_isWithin := goodIn_r _ [9] (by decide +kernel) (by decide +kernel)
set_option maxRecDepth 20000 in
theorem gX4_restore_X4_isWithin : GoodIn wsX4_restore (va_wsS RX4 49 yX4_isWithin wsX4_isWithin) := goodIn_app (goodIn_of _ (by decide +kernel)) ggX4_restore_X4_isWithin
set_option maxRecDepth 20000 in
theorem ggX4_restore_X0_keep : GoodIn wsX4_restore wsX0_keep := goodIn_r _ [14, 15, 16, 17, 18, 19, 20, 21, 22, 23, 24, 25, 26, 27, 28, 29, 30, 31, 32, 33, 34, 35, 36, 37, 38, 39, 40, 41, 42, 8, 43, 44, 45, 46, 47, 48, 71, 72, 73, 56, 57, 58, 59, 60, 61, 62, 63, 64, 65, 66, 67, 68, 69, 70] (by decide +kernel) (by decide +kernel)
set_option maxRecDepth 20000 in
theorem gX4_restore_X0_keep : GoodIn wsX4_restore (wsV RX4 59 RX0 yX0_keep wsX0_keep) := goodIn_app (goodIn_of _ (by decide +kernel)) ggX4_restore_X0_keep
set_option maxRecDepth 20000 in
theorem ggX4_restore_X3_become : GoodIn wsX4_restore wsX3_become := goodIn_r _ [26, 27, 28, 29, 30, 31, 32, 33, 34, 35, 36, 37, 38, 39, 40, 41, 42, 8, 43, 44, 19, 20, 21, 45, 46, 47, 48, 56, 57, 58, 59, 60, 61, 62, 63, 64, 65, 66, 67, 68, 69, 70] (by decide +kernel) (by decide +kernel)
set_option maxRecDepth 20000 in
theorem gX4_restore_X3_become : GoodIn wsX4_restore (wsV RX4 202 RX3 yX3_become wsX3_become) := goodIn_app (goodIn_of _ (by decide +kernel)) ggX4_restore_X3_become
theorem dX4_restore_0 : decode cX4_restore 0 = .ok (.iload_n 1, 1) := by decide +kernel
theorem dX4_restore_1 : decode cX4_restore 1 = .ok (.iconst 0, 1) := by decide +kernel
theorem dX4_restore_2 : decode cX4_restore 2 = .ok (.iconst 1, 1) := by decide +kernel
theorem dX4_restore_3 : decode cX4_restore 3 = .ok (.invokestatic 49, 3) := by decide +kernel
theorem dX4_restore_6 : decode cX4_restore 6 = .ok (.ifCond .ne 6, 3) := by decide +kernel
theorem dX4_restore_9 : decode cX4_restore 9 = .ok (.bipush (-2), 2) := by decide +kernel
theorem dX4_restore_11 : decode cX4_restore 11 = .ok (.ireturn, 1) := by decide +kernel
theorem dX4_restore_12 : decode cX4_restore 12 = .ok (.aload_n 0, 1) := by decide +kernel
theorem dX4_restore_13 : decode cX4_restore 13 = .ok (.getfield 27, 3) := by decide +kernel
theorem dX4_restore_16 : decode cX4_restore 16 = .ok (.iload_n 1, 1) := by decide +kernel
theorem dX4_restore_17 : decode cX4_restore 17 = .ok (.baload, 1) := by decide +kernel
theorem dX4_restore_18 : decode cX4_restore 18 = .ok (.ifCond .ne 6, 3) := by decide +kernel
theorem dX4_restore_21 : decode cX4_restore 21 = .ok (.bipush (-5), 2) := by decide +kernel
theorem dX4_restore_23 : decode cX4_restore 23 = .ok (.ireturn, 1) := by decide +kernel
theorem dX4_restore_24 : decode cX4_restore 24 = .ok (.aload_n 0, 1) := by decide +kernel
theorem dX4_restore_25 : decode cX4_restore 25 = .ok (.getfield 19, 3) := by decide +kernel
theorem dX4_restore_28 : decode cX4_restore 28 = .ok (.aload_n 0, 1) := by decide +kernel
theorem dX4_restore_29 : decode cX4_restore 29 = .ok (.getfield 10, 3) := by decide +kernel
theorem dX4_restore_32 : decode cX4_restore 32 = .ok (.invokevirtual 59, 3) := by decide +kernel
theorem dX4_restore_35 : decode cX4_restore 35 = .ok (.aload_n 0, 1) := by decide +kernel
theorem dX4_restore_36 : decode cX4_restore 36 = .ok (.getfield 10, 3) := by decide +kernel
theorem dX4_restore_39 : decode cX4_restore 39 = .ok (.aload_n 0, 1) := by decide +kernel
theorem dX4_restore_40 : decode cX4_restore 40 = .ok (.getfield 23, 3) := by decide +kernel
theorem dX4_restore_43 : decode cX4_restore 43 = .ok (.iload_n 1, 1) := by decide +kernel
theorem dX4_restore_44 : decode cX4_restore 44 = .ok (.aaload, 1) := by decide +kernel
theorem dX4_restore_45 : decode cX4_restore 45 = .ok (.invokevirtual 202, 3) := by decide +kernel
theorem dX4_restore_48 : decode cX4_restore 48 = .ok (.aload_n 0, 1) := by decide +kernel
theorem dX4_restore_49 : decode cX4_restore 49 = .ok (.getfield 10, 3) := by decide +kernel
theorem dX4_restore_52 : decode cX4_restore 52 = .ok (.getfield 174, 3) := by decide +kernel
theorem dX4_restore_55 : decode cX4_restore 55 = .ok (.ireturn, 1) := by decide +kernel
set_option maxRecDepth 20000 in
theorem ggX4_offerError_X4_isPupil : GoodIn wsX4_offerError wsX4_isPupil := goodIn_r _ [5, 6, 7, 4, 8] (by decide +kernel) (by decide +kernel)
set_option maxRecDepth 20000 in
theorem gX4_offerError_X4_isPupil : GoodIn wsX4_offerError (va_wsS RX4 88 yX4_isPupil wsX4_isPupil) := goodIn_app (goodIn_of _ (by decide +kernel)) ggX4_offerError_X4_isPupil
set_option maxRecDepth 20000 in
theorem ggX4_offerError_X3_hasExcuse : GoodIn wsX4_offerError wsX3_hasExcuse := goodIn_r _ [13, 14, 21, 22, 23, 24, 25, 26, 27, 28, 29, 30, 31, 32, 33, 34, 35] (by decide +kernel) (by decide +kernel)
set_option maxRecDepth 20000 in
theorem gX4_offerError_X3_hasExcuse : GoodIn wsX4_offerError (wsV RX4 74 RX3 yX3_hasExcuse wsX3_hasExcuse) := goodIn_app (goodIn_of _ (by decide +kernel)) ggX4_offerError_X3_hasExcuse
set_option maxRecDepth 20000 in
theorem ggX4_offerError_X4_isWithin : GoodIn wsX4_offerError wsX4_isWithin := goodIn_r _ [8] (by decide +kernel) (by decide +kernel)
set_option maxRecDepth 20000 in
theorem gX4_offerError_X4_isWithin : GoodIn wsX4_offerError (va_wsS RX4 49 yX4_isWithin wsX4_isWithin) := goodIn_app (goodIn_of _ (by decide +kernel)) ggX4_offerError_X4_isWithin
theorem dX4_offerError_0 : decode cX4_offerError 0 = .ok (.iload_n 1, 1) := by decide +kernel
theorem dX4_offerError_1 : decode cX4_offerError 1 = .ok (.invokestatic 88, 3) := by decide +kernel
theorem dX4_offerError_4 : decode cX4_offerError 4 = .ok (.ifCond .eq 14, 3) := by decide +kernel
theorem dX4_offerError_7 : decode cX4_offerError 7 = .ok (.aload_n 0, 1) := by decide +kernel
theorem dX4_offerError_8 : decode cX4_offerError 8 = .ok (.getfield 10, 3) := by decide +kernel
theorem dX4_offerError_11 : decode cX4_offerError 11 = .ok (.iload_n 2, 1) := by decide +kernel
theorem dX4_offerError_12 : decode cX4_offerError 12 = .ok (.invokevirtual 74, 3) := by decide +kernel
theorem dX4_offerError_15 : decode cX4_offerError 15 = .ok (.ifCond .ne 5, 3) := by decide +kernel
theorem dX4_offerError_18 : decode cX4_offerError 18 = .ok (.iconst (-1), 1) := by decide +kernel
theorem dX4_offerError_19 : decode cX4_offerError 19 = .ok (.ireturn, 1) := by decide +kernel
theorem dX4_offerError_20 : decode cX4_offerError 20 = .ok (.iload_n 3, 1) := by decide +kernel
theorem dX4_offerError_21 : decode cX4_offerError 21 = .ok (.bipush (-6), 2) := by decide +kernel
theorem dX4_offerError_23 : decode cX4_offerError 23 = .ok (.if_icmp .eq 12, 3) := by decide +kernel
theorem dX4_offerError_26 : decode cX4_offerError 26 = .ok (.iload_n 3, 1) := by decide +kernel
theorem dX4_offerError_27 : decode cX4_offerError 27 = .ok (.invokestatic 88, 3) := by decide +kernel
theorem dX4_offerError_30 : decode cX4_offerError 30 = .ok (.ifCond .ne 5, 3) := by decide +kernel
theorem dX4_offerError_33 : decode cX4_offerError 33 = .ok (.iconst (-1), 1) := by decide +kernel
theorem dX4_offerError_34 : decode cX4_offerError 34 = .ok (.ireturn, 1) := by decide +kernel
theorem dX4_offerError_35 : decode cX4_offerError 35 = .ok (.iload 4, 2) := by decide +kernel
theorem dX4_offerError_37 : decode cX4_offerError 37 = .ok (.iconst 1, 1) := by decide +kernel
theorem dX4_offerError_38 : decode cX4_offerError 38 = .ok (.bipush 99, 2) := by decide +kernel
theorem dX4_offerError_40 : decode cX4_offerError 40 = .ok (.invokestatic 49, 3) := by decide +kernel
theorem dX4_offerError_43 : decode cX4_offerError 43 = .ok (.ifCond .eq 8, 3) := by decide +kernel
theorem dX4_offerError_46 : decode cX4_offerError 46 = .ok (.iload_n 3, 1) := by decide +kernel
theorem dX4_offerError_47 : decode cX4_offerError 47 = .ok (.iload_n 1, 1) := by decide +kernel
theorem dX4_offerError_48 : decode cX4_offerError 48 = .ok (.if_icmp .ne 6, 3) := by decide +kernel
theorem dX4_offerError_51 : decode cX4_offerError 51 = .ok (.bipush (-2), 2) := by decide +kernel
theorem dX4_offerError_53 : decode cX4_offerError 53 = .ok (.ireturn, 1) := by decide +kernel
theorem dX4_offerError_54 : decode cX4_offerError 54 = .ok (.iconst 0, 1) := by decide +kernel
theorem dX4_offerError_55 : decode cX4_offerError 55 = .ok (.ireturn, 1) := by decide +kernel
set_option maxRecDepth 20000 in
theorem ggX4_stampsForWhatWasRead_X3_hasExcuse : GoodIn wsX4_stampsForWhatWasRead wsX3_hasExcuse := goodIn_r _ [11, 12, 94, 95, 96, 97, 98, 99, 100, 101, 102, 103, 104, 105, 106, 107, 108] (by decide +kernel) (by decide +kernel)
set_option maxRecDepth 20000 in
theorem gX4_stampsForWhatWasRead_X3_hasExcuse : GoodIn wsX4_stampsForWhatWasRead (wsV RX4 74 RX3 yX3_hasExcuse wsX3_hasExcuse) := goodIn_app (goodIn_of _ (by decide +kernel)) ggX4_stampsForWhatWasRead_X3_hasExcuse
set_option maxRecDepth 20000 in
theorem ggX4_stampsForWhatWasRead_X3_takeOffer : GoodIn wsX4_stampsForWhatWasRead wsX3_takeOffer := goodIn_r _ [16, 17, 18, 19, 20, 21, 10, 22, 23, 24, 25, 26, 27, 28, 29, 30, 31, 32, 33, 34, 35, 36, 37, 38, 39, 40, 41, 42, 43, 44, 45, 46, 47, 48, 49, 50, 51, 52, 53, 54, 55, 56, 57, 58, 59, 60, 61, 62, 63, 64, 65, 66, 67, 68, 69, 70, 71, 72, 73, 74, 75, 76, 77, 78, 79, 80, 81, 82, 94, 95, 96, 97, 98, 99, 100, 101, 102, 103, 104, 105, 106, 107, 108] (by decide +kernel) (by decide +kernel)
set_option maxRecDepth 20000 in
theorem gX4_stampsForWhatWasRead_X3_takeOffer : GoodIn wsX4_stampsForWhatWasRead (wsV RX4 85 RX3 yX3_takeOffer wsX3_takeOffer) := goodIn_app (goodIn_of _ (by decide +kernel)) ggX4_stampsForWhatWasRead_X3_takeOffer
theorem dX4_stampsForWhatWasRead_0 : decode cX4_stampsForWhatWasRead 0 = .ok (.aload_n 0, 1) := by decide +kernel
theorem dX4_stampsForWhatWasRead_1 : decode cX4_stampsForWhatWasRead 1 = .ok (.getfield 10, 3) := by decide +kernel
theorem dX4_stampsForWhatWasRead_4 : decode cX4_stampsForWhatWasRead 4 = .ok (.aload_n 0, 1) := by decide +kernel
theorem dX4_stampsForWhatWasRead_5 : decode cX4_stampsForWhatWasRead 5 = .ok (.getfield 41, 3) := by decide +kernel
theorem dX4_stampsForWhatWasRead_8 : decode cX4_stampsForWhatWasRead 8 = .ok (.getfield 205, 3) := by decide +kernel
theorem dX4_stampsForWhatWasRead_11 : decode cX4_stampsForWhatWasRead 11 = .ok (.invokevirtual 74, 3) := by decide +kernel
theorem dX4_stampsForWhatWasRead_14 : decode cX4_stampsForWhatWasRead 14 = .ok (.ifCond .ne 5, 3) := by decide +kernel
theorem dX4_stampsForWhatWasRead_17 : decode cX4_stampsForWhatWasRead 17 = .ok (.iconst 0, 1) := by decide +kernel
theorem dX4_stampsForWhatWasRead_18 : decode cX4_stampsForWhatWasRead 18 = .ok (.ireturn, 1) := by decide +kernel
theorem dX4_stampsForWhatWasRead_19 : decode cX4_stampsForWhatWasRead 19 = .ok (.aload_n 0, 1) := by decide +kernel
theorem dX4_stampsForWhatWasRead_20 : decode cX4_stampsForWhatWasRead 20 = .ok (.getfield 10, 3) := by decide +kernel
theorem dX4_stampsForWhatWasRead_23 : decode cX4_stampsForWhatWasRead 23 = .ok (.aload_n 0, 1) := by decide +kernel
theorem dX4_stampsForWhatWasRead_24 : decode cX4_stampsForWhatWasRead 24 = .ok (.getfield 41, 3) := by decide +kernel
theorem dX4_stampsForWhatWasRead_27 : decode cX4_stampsForWhatWasRead 27 = .ok (.getfield 208, 3) := by decide +kernel
theorem dX4_stampsForWhatWasRead_30 : decode cX4_stampsForWhatWasRead 30 = .ok (.aload_n 0, 1) := by decide +kernel
theorem dX4_stampsForWhatWasRead_31 : decode cX4_stampsForWhatWasRead 31 = .ok (.getfield 41, 3) := by decide +kernel
theorem dX4_stampsForWhatWasRead_34 : decode cX4_stampsForWhatWasRead 34 = .ok (.getfield 205, 3) := by decide +kernel
theorem dX4_stampsForWhatWasRead_37 : decode cX4_stampsForWhatWasRead 37 = .ok (.aload_n 0, 1) := by decide +kernel
theorem dX4_stampsForWhatWasRead_38 : decode cX4_stampsForWhatWasRead 38 = .ok (.getfield 41, 3) := by decide +kernel
theorem dX4_stampsForWhatWasRead_41 : decode cX4_stampsForWhatWasRead 41 = .ok (.getfield 211, 3) := by decide +kernel
theorem dX4_stampsForWhatWasRead_44 : decode cX4_stampsForWhatWasRead 44 = .ok (.aload_n 0, 1) := by decide +kernel
theorem dX4_stampsForWhatWasRead_45 : decode cX4_stampsForWhatWasRead 45 = .ok (.getfield 41, 3) := by decide +kernel
theorem dX4_stampsForWhatWasRead_48 : decode cX4_stampsForWhatWasRead 48 = .ok (.getfield 214, 3) := by decide +kernel
theorem dX4_stampsForWhatWasRead_51 : decode cX4_stampsForWhatWasRead 51 = .ok (.invokevirtual 85, 3) := by decide +kernel
theorem dX4_stampsForWhatWasRead_54 : decode cX4_stampsForWhatWasRead 54 = .ok (.istore_n 1, 1) := by decide +kernel
theorem dX4_stampsForWhatWasRead_55 : decode cX4_stampsForWhatWasRead 55 = .ok (.iload_n 1, 1) := by decide +kernel
theorem dX4_stampsForWhatWasRead_56 : decode cX4_stampsForWhatWasRead 56 = .ok (.ifCond .ne 7, 3) := by decide +kernel
theorem dX4_stampsForWhatWasRead_59 : decode cX4_stampsForWhatWasRead 59 = .ok (.iconst 1, 1) := by decide +kernel
theorem dX4_stampsForWhatWasRead_60 : decode cX4_stampsForWhatWasRead 60 = .ok (.goto 4, 3) := by decide +kernel
theorem dX4_stampsForWhatWasRead_63 : decode cX4_stampsForWhatWasRead 63 = .ok (.iconst 0, 1) := by decide +kernel
theorem dX4_stampsForWhatWasRead_64 : decode cX4_stampsForWhatWasRead 64 = .ok (.ireturn, 1) := by decide +kernel
set_option maxRecDepth 20000 in
theorem ggX4_charactersIn_X4_codeAt : GoodIn wsX4_charactersIn wsX4_codeAt := goodIn_r _ [4] (by decide +kernel) (by decide +kernel)
set_option maxRecDepth 20000 in
theorem gX4_charactersIn_X4_codeAt : GoodIn wsX4_charactersIn (va_wsS RX4 187 yX4_codeAt wsX4_codeAt) := goodIn_app (goodIn_of _ (by decide +kernel)) ggX4_charactersIn_X4_codeAt
set_option maxRecDepth 20000 in
theorem ggX4_charactersIn_X4_isWithin : GoodIn wsX4_charactersIn wsX4_isWithin := goodIn_r _ [7] (by decide +kernel) (by decide +kernel)
set_option maxRecDepth 20000 in
theorem gX4_charactersIn_X4_isWithin : GoodIn wsX4_charactersIn (va_wsS RX4 49 yX4_isWithin wsX4_isWithin) := goodIn_app (goodIn_of _ (by decide +kernel)) ggX4_charactersIn_X4_isWithin
theorem dX4_charactersIn_0 : decode cX4_charactersIn 0 = .ok (.iconst 0, 1) := by decide +kernel
theorem dX4_charactersIn_1 : decode cX4_charactersIn 1 = .ok (.istore_n 2, 1) := by decide +kernel
theorem dX4_charactersIn_2 : decode cX4_charactersIn 2 = .ok (.iload_n 2, 1) := by decide +kernel
theorem dX4_charactersIn_3 : decode cX4_charactersIn 3 = .ok (.bipush 8, 2) := by decide +kernel
theorem dX4_charactersIn_5 : decode cX4_charactersIn 5 = .ok (.if_icmp .ge 49, 3) := by decide +kernel
theorem dX4_charactersIn_8 : decode cX4_charactersIn 8 = .ok (.lload_n 0, 1) := by decide +kernel
theorem dX4_charactersIn_9 : decode cX4_charactersIn 9 = .ok (.iload_n 2, 1) := by decide +kernel
theorem dX4_charactersIn_10 : decode cX4_charactersIn 10 = .ok (.invokestatic 187, 3) := by decide +kernel
theorem dX4_charactersIn_13 : decode cX4_charactersIn 13 = .ok (.istore_n 3, 1) := by decide +kernel
theorem dX4_charactersIn_14 : decode cX4_charactersIn 14 = .ok (.iload_n 3, 1) := by decide +kernel
theorem dX4_charactersIn_15 : decode cX4_charactersIn 15 = .ok (.ifCond .ne 20, 3) := by decide +kernel
theorem dX4_charactersIn_18 : decode cX4_charactersIn 18 = .ok (.lload_n 0, 1) := by decide +kernel
theorem dX4_charactersIn_19 : decode cX4_charactersIn 19 = .ok (.bipush 8, 2) := by decide +kernel
theorem dX4_charactersIn_21 : decode cX4_charactersIn 21 = .ok (.iload_n 2, 1) := by decide +kernel
theorem dX4_charactersIn_22 : decode cX4_charactersIn 22 = .ok (.imul, 1) := by decide +kernel
theorem dX4_charactersIn_23 : decode cX4_charactersIn 23 = .ok (.lushr, 1) := by decide +kernel
theorem dX4_charactersIn_24 : decode cX4_charactersIn 24 = .ok (.lconst 0, 1) := by decide +kernel
theorem dX4_charactersIn_25 : decode cX4_charactersIn 25 = .ok (.lcmp, 1) := by decide +kernel
theorem dX4_charactersIn_26 : decode cX4_charactersIn 26 = .ok (.ifCond .ne 7, 3) := by decide +kernel
theorem dX4_charactersIn_29 : decode cX4_charactersIn 29 = .ok (.iload_n 2, 1) := by decide +kernel
theorem dX4_charactersIn_30 : decode cX4_charactersIn 30 = .ok (.goto 4, 3) := by decide +kernel
theorem dX4_charactersIn_33 : decode cX4_charactersIn 33 = .ok (.iconst 0, 1) := by decide +kernel
theorem dX4_charactersIn_34 : decode cX4_charactersIn 34 = .ok (.ireturn, 1) := by decide +kernel
theorem dX4_charactersIn_35 : decode cX4_charactersIn 35 = .ok (.iload_n 3, 1) := by decide +kernel
theorem dX4_charactersIn_36 : decode cX4_charactersIn 36 = .ok (.bipush 33, 2) := by decide +kernel
theorem dX4_charactersIn_38 : decode cX4_charactersIn 38 = .ok (.bipush 126, 2) := by decide +kernel
theorem dX4_charactersIn_40 : decode cX4_charactersIn 40 = .ok (.invokestatic 49, 3) := by decide +kernel
theorem dX4_charactersIn_43 : decode cX4_charactersIn 43 = .ok (.ifCond .ne 5, 3) := by decide +kernel
theorem dX4_charactersIn_46 : decode cX4_charactersIn 46 = .ok (.iconst 0, 1) := by decide +kernel
theorem dX4_charactersIn_47 : decode cX4_charactersIn 47 = .ok (.ireturn, 1) := by decide +kernel
theorem dX4_charactersIn_48 : decode cX4_charactersIn 48 = .ok (.iinc 2 1, 3) := by decide +kernel
theorem dX4_charactersIn_51 : decode cX4_charactersIn 51 = .ok (.goto (-49), 3) := by decide +kernel
theorem dX4_charactersIn_54 : decode cX4_charactersIn 54 = .ok (.bipush 8, 2) := by decide +kernel
theorem dX4_charactersIn_56 : decode cX4_charactersIn 56 = .ok (.ireturn, 1) := by decide +kernel
theorem dX4_codeAt_0 : decode cX4_codeAt 0 = .ok (.lload_n 0, 1) := by decide +kernel
theorem dX4_codeAt_1 : decode cX4_codeAt 1 = .ok (.bipush 8, 2) := by decide +kernel
theorem dX4_codeAt_3 : decode cX4_codeAt 3 = .ok (.iload_n 2, 1) := by decide +kernel
theorem dX4_codeAt_4 : decode cX4_codeAt 4 = .ok (.imul, 1) := by decide +kernel
theorem dX4_codeAt_5 : decode cX4_codeAt 5 = .ok (.lushr, 1) := by decide +kernel
theorem dX4_codeAt_6 : decode cX4_codeAt 6 = .ok (.l2i, 1) := by decide +kernel
theorem dX4_codeAt_7 : decode cX4_codeAt 7 = .ok (.sipush 255, 3) := by decide +kernel
theorem dX4_codeAt_10 : decode cX4_codeAt 10 = .ok (.iand, 1) := by decide +kernel
theorem dX4_codeAt_11 : decode cX4_codeAt 11 = .ok (.ireturn, 1) := by decide +kernel
set_option maxRecDepth 20000 in
theorem ggX4_isPupil_X4_isWithin : GoodIn wsX4_isPupil wsX4_isWithin := goodIn_r _ [4] (by decide +kernel) (by decide +kernel)
set_option maxRecDepth 20000 in
theorem gX4_isPupil_X4_isWithin : GoodIn wsX4_isPupil (va_wsS RX4 49 yX4_isWithin wsX4_isWithin) := goodIn_app (goodIn_of _ (by decide +kernel)) ggX4_isPupil_X4_isWithin
theorem dX4_isPupil_0 : decode cX4_isPupil 0 = .ok (.iload_n 0, 1) := by decide +kernel
theorem dX4_isPupil_1 : decode cX4_isPupil 1 = .ok (.iconst 0, 1) := by decide +kernel
theorem dX4_isPupil_2 : decode cX4_isPupil 2 = .ok (.bipush 9, 2) := by decide +kernel
theorem dX4_isPupil_4 : decode cX4_isPupil 4 = .ok (.invokestatic 49, 3) := by decide +kernel
theorem dX4_isPupil_7 : decode cX4_isPupil 7 = .ok (.ireturn, 1) := by decide +kernel
theorem dX4_isWithin_0 : decode cX4_isWithin 0 = .ok (.iload_n 0, 1) := by decide +kernel
theorem dX4_isWithin_1 : decode cX4_isWithin 1 = .ok (.iload_n 1, 1) := by decide +kernel
theorem dX4_isWithin_2 : decode cX4_isWithin 2 = .ok (.if_icmp .lt 12, 3) := by decide +kernel
theorem dX4_isWithin_5 : decode cX4_isWithin 5 = .ok (.iload_n 0, 1) := by decide +kernel
theorem dX4_isWithin_6 : decode cX4_isWithin 6 = .ok (.iload_n 2, 1) := by decide +kernel
theorem dX4_isWithin_7 : decode cX4_isWithin 7 = .ok (.if_icmp .gt 7, 3) := by decide +kernel
theorem dX4_isWithin_10 : decode cX4_isWithin 10 = .ok (.iconst 1, 1) := by decide +kernel
theorem dX4_isWithin_11 : decode cX4_isWithin 11 = .ok (.goto 4, 3) := by decide +kernel
theorem dX4_isWithin_14 : decode cX4_isWithin 14 = .ok (.iconst 0, 1) := by decide +kernel
theorem dX4_isWithin_15 : decode cX4_isWithin 15 = .ok (.ireturn, 1) := by decide +kernel
theorem dX4_classOf_0 : decode cX4_classOf 0 = .ok (.iload_n 0, 1) := by decide +kernel
theorem dX4_classOf_1 : decode cX4_classOf 1 = .ok (.iconst 2, 1) := by decide +kernel
theorem dX4_classOf_2 : decode cX4_classOf 2 = .ok (.idiv, 1) := by decide +kernel
theorem dX4_classOf_3 : decode cX4_classOf 3 = .ok (.ireturn, 1) := by decide +kernel
theorem dX4_sum_0 : decode cX4_sum 0 = .ok (.iconst 0, 1) := by decide +kernel
theorem dX4_sum_1 : decode cX4_sum 1 = .ok (.istore_n 1, 1) := by decide +kernel
theorem dX4_sum_2 : decode cX4_sum 2 = .ok (.iconst 0, 1) := by decide +kernel
theorem dX4_sum_3 : decode cX4_sum 3 = .ok (.istore_n 2, 1) := by decide +kernel
theorem dX4_sum_4 : decode cX4_sum 4 = .ok (.iload_n 2, 1) := by decide +kernel
theorem dX4_sum_5 : decode cX4_sum 5 = .ok (.aload_n 0, 1) := by decide +kernel
theorem dX4_sum_6 : decode cX4_sum 6 = .ok (.arraylength, 1) := by decide +kernel
theorem dX4_sum_7 : decode cX4_sum 7 = .ok (.if_icmp .ge 15, 3) := by decide +kernel
theorem dX4_sum_10 : decode cX4_sum 10 = .ok (.iload_n 1, 1) := by decide +kernel
theorem dX4_sum_11 : decode cX4_sum 11 = .ok (.aload_n 0, 1) := by decide +kernel
theorem dX4_sum_12 : decode cX4_sum 12 = .ok (.iload_n 2, 1) := by decide +kernel
theorem dX4_sum_13 : decode cX4_sum 13 = .ok (.iaload, 1) := by decide +kernel
theorem dX4_sum_14 : decode cX4_sum 14 = .ok (.iadd, 1) := by decide +kernel
theorem dX4_sum_15 : decode cX4_sum 15 = .ok (.istore_n 1, 1) := by decide +kernel
theorem dX4_sum_16 : decode cX4_sum 16 = .ok (.iinc 2 1, 3) := by decide +kernel
theorem dX4_sum_19 : decode cX4_sum 19 = .ok (.goto (-15), 3) := by decide +kernel
theorem dX4_sum_22 : decode cX4_sum 22 = .ok (.iload_n 1, 1) := by decide +kernel
theorem dX4_sum_23 : decode cX4_sum 23 = .ok (.ireturn, 1) := by decide +kernel
theorem dX4_copy_0 : decode cX4_copy 0 = .ok (.aload_n 0, 1) := by decide +kernel
theorem dX4_copy_1 : decode cX4_copy 1 = .ok (.iconst 0, 1) := by decide +kernel
theorem dX4_copy_2 : decode cX4_copy 2 = .ok (.aload_n 1, 1) := by decide +kernel
theorem dX4_copy_3 : decode cX4_copy 3 = .ok (.iconst 0, 1) := by decide +kernel
theorem dX4_copy_4 : decode cX4_copy 4 = .ok (.aload_n 0, 1) := by decide +kernel
theorem dX4_copy_5 : decode cX4_copy 5 = .ok (.arraylength, 1) := by decide +kernel
theorem dX4_copy_6 : decode cX4_copy 6 = .ok (.aload_n 1, 1) := by decide +kernel
theorem dX4_copy_7 : decode cX4_copy 7 = .ok (.arraylength, 1) := by decide +kernel
theorem dX4_copy_8 : decode cX4_copy 8 = .ok (.invokestatic 217, 3) := by decide +kernel
theorem dX4_copy_11 : decode cX4_copy 11 = .ok (.invokestatic 222, 3) := by decide +kernel
theorem dX4_copy_14 : decode cX4_copy 14 = .ok (.return_, 1) := by decide +kernel
end
section
theorem inlX5 : ∀ w ∈ wsX50, w ∈ wsL_law := fun _ h => List.mem_append_left _ (List.mem_append_left _ (List.mem_append_left _ (List.mem_append_left _ (List.mem_append_left _ (List.mem_append_right _ h)))))
set_option maxRecDepth 20000 in
theorem ggX5_init_X5_lay : GoodIn wsX5_init wsX5_lay := goodIn_r _ [15, 5, 16, 17, 18, 19, 20, 21, 22, 23, 24, 25, 26, 27] (by decide +kernel) (by decide +kernel)
set_option maxRecDepth 20000 in
theorem gX5_init_X5_lay : GoodIn wsX5_init (wsV RX5 26 RX5 yX5_lay wsX5_lay) := goodIn_app (goodIn_of _ (by decide +kernel)) ggX5_init_X5_lay
theorem dX5_init_0 : decode cX5_init 0 = .ok (.aload_n 0, 1) := by decide +kernel
theorem dX5_init_1 : decode cX5_init 1 = .ok (.invokespecial 1, 3) := by decide +kernel
theorem dX5_init_4 : decode cX5_init 4 = .ok (.aload_n 0, 1) := by decide +kernel
theorem dX5_init_5 : decode cX5_init 5 = .ok (.sipush 234, 3) := by decide +kernel
theorem dX5_init_8 : decode cX5_init 8 = .ok (.newarray .int, 2) := by decide +kernel
theorem dX5_init_10 : decode cX5_init 10 = .ok (.putfield 7, 3) := by decide +kernel
theorem dX5_init_13 : decode cX5_init 13 = .ok (.aload_n 0, 1) := by decide +kernel
theorem dX5_init_14 : decode cX5_init 14 = .ok (.sipush 1404, 3) := by decide +kernel
theorem dX5_init_17 : decode cX5_init 17 = .ok (.newarray .int, 2) := by decide +kernel
theorem dX5_init_19 : decode cX5_init 19 = .ok (.putfield 13, 3) := by decide +kernel
theorem dX5_init_22 : decode cX5_init 22 = .ok (.aload_n 0, 1) := by decide +kernel
theorem dX5_init_23 : decode cX5_init 23 = .ok (.sipush 468, 3) := by decide +kernel
theorem dX5_init_26 : decode cX5_init 26 = .ok (.newarray .int, 2) := by decide +kernel
theorem dX5_init_28 : decode cX5_init 28 = .ok (.putfield 16, 3) := by decide +kernel
theorem dX5_init_31 : decode cX5_init 31 = .ok (.aload_n 0, 1) := by decide +kernel
theorem dX5_init_32 : decode cX5_init 32 = .ok (.iconst 2, 1) := by decide +kernel
theorem dX5_init_33 : decode cX5_init 33 = .ok (.newarray .boolean, 2) := by decide +kernel
theorem dX5_init_35 : decode cX5_init 35 = .ok (.putfield 19, 3) := by decide +kernel
theorem dX5_init_38 : decode cX5_init 38 = .ok (.aload_n 0, 1) := by decide +kernel
theorem dX5_init_39 : decode cX5_init 39 = .ok (.bipush 60, 2) := by decide +kernel
theorem dX5_init_41 : decode cX5_init 41 = .ok (.newarray .int, 2) := by decide +kernel
theorem dX5_init_43 : decode cX5_init 43 = .ok (.putfield 23, 3) := by decide +kernel
theorem dX5_init_46 : decode cX5_init 46 = .ok (.aload_n 0, 1) := by decide +kernel
theorem dX5_init_47 : decode cX5_init 47 = .ok (.getfield 7, 3) := by decide +kernel
theorem dX5_init_50 : decode cX5_init 50 = .ok (.iconst 0, 1) := by decide +kernel
theorem dX5_init_51 : decode cX5_init 51 = .ok (.bipush 40, 2) := by decide +kernel
theorem dX5_init_53 : decode cX5_init 53 = .ok (.iastore, 1) := by decide +kernel
theorem dX5_init_54 : decode cX5_init 54 = .ok (.aload_n 0, 1) := by decide +kernel
theorem dX5_init_55 : decode cX5_init 55 = .ok (.getfield 7, 3) := by decide +kernel
theorem dX5_init_58 : decode cX5_init 58 = .ok (.iconst 1, 1) := by decide +kernel
theorem dX5_init_59 : decode cX5_init 59 = .ok (.bipush 25, 2) := by decide +kernel
theorem dX5_init_61 : decode cX5_init 61 = .ok (.iastore, 1) := by decide +kernel
theorem dX5_init_62 : decode cX5_init 62 = .ok (.aload_n 0, 1) := by decide +kernel
theorem dX5_init_63 : decode cX5_init 63 = .ok (.getfield 7, 3) := by decide +kernel
theorem dX5_init_66 : decode cX5_init 66 = .ok (.iconst 2, 1) := by decide +kernel
theorem dX5_init_67 : decode cX5_init 67 = .ok (.iconst 3, 1) := by decide +kernel
theorem dX5_init_68 : decode cX5_init 68 = .ok (.iastore, 1) := by decide +kernel
theorem dX5_init_69 : decode cX5_init 69 = .ok (.aload_n 0, 1) := by decide +kernel
theorem dX5_init_70 : decode cX5_init 70 = .ok (.getfield 7, 3) := by decide +kernel
theorem dX5_init_73 : decode cX5_init 73 = .ok (.iconst 3, 1) := by decide +kernel
theorem dX5_init_74 : decode cX5_init 74 = .ok (.iconst 5, 1) := by decide +kernel
theorem dX5_init_75 : decode cX5_init 75 = .ok (.iastore, 1) := by decide +kernel
theorem dX5_init_76 : decode cX5_init 76 = .ok (.aload_n 0, 1) := by decide +kernel
theorem dX5_init_77 : decode cX5_init 77 = .ok (.getfield 7, 3) := by decide +kernel
theorem dX5_init_80 : decode cX5_init 80 = .ok (.iconst 4, 1) := by decide +kernel
theorem dX5_init_81 : decode cX5_init 81 = .ok (.iconst 4, 1) := by decide +kernel
theorem dX5_init_82 : decode cX5_init 82 = .ok (.iastore, 1) := by decide +kernel
theorem dX5_init_83 : decode cX5_init 83 = .ok (.iconst 0, 1) := by decide +kernel
theorem dX5_init_84 : decode cX5_init 84 = .ok (.istore_n 1, 1) := by decide +kernel
theorem dX5_init_85 : decode cX5_init 85 = .ok (.iload_n 1, 1) := by decide +kernel
theorem dX5_init_86 : decode cX5_init 86 = .ok (.bipush 10, 2) := by decide +kernel
theorem dX5_init_88 : decode cX5_init 88 = .ok (.if_icmp .ge 24, 3) := by decide +kernel
theorem dX5_init_91 : decode cX5_init 91 = .ok (.aload_n 0, 1) := by decide +kernel
theorem dX5_init_92 : decode cX5_init 92 = .ok (.iload_n 1, 1) := by decide +kernel
theorem dX5_init_93 : decode cX5_init 93 = .ok (.iconst 0, 1) := by decide +kernel
theorem dX5_init_94 : decode cX5_init 94 = .ok (.iconst 5, 1) := by decide +kernel
theorem dX5_init_95 : decode cX5_init 95 = .ok (.invokevirtual 26, 3) := by decide +kernel
theorem dX5_init_98 : decode cX5_init 98 = .ok (.aload_n 0, 1) := by decide +kernel
theorem dX5_init_99 : decode cX5_init 99 = .ok (.iload_n 1, 1) := by decide +kernel
theorem dX5_init_100 : decode cX5_init 100 = .ok (.iconst 4, 1) := by decide +kernel
theorem dX5_init_101 : decode cX5_init 101 = .ok (.bipush (-6), 2) := by decide +kernel
theorem dX5_init_103 : decode cX5_init 103 = .ok (.invokevirtual 26, 3) := by decide +kernel
theorem dX5_init_106 : decode cX5_init 106 = .ok (.iinc 1 1, 3) := by decide +kernel
theorem dX5_init_109 : decode cX5_init 109 = .ok (.goto (-24), 3) := by decide +kernel
theorem dX5_init_112 : decode cX5_init 112 = .ok (.return_, 1) := by decide +kernel
theorem dX5_in_0 : decode cX5_in 0 = .ok (.iload_n 0, 1) := by decide +kernel
theorem dX5_in_1 : decode cX5_in 1 = .ok (.iload_n 1, 1) := by decide +kernel
theorem dX5_in_2 : decode cX5_in 2 = .ok (.if_icmp .lt 12, 3) := by decide +kernel
theorem dX5_in_5 : decode cX5_in 5 = .ok (.iload_n 0, 1) := by decide +kernel
theorem dX5_in_6 : decode cX5_in 6 = .ok (.iload_n 2, 1) := by decide +kernel
theorem dX5_in_7 : decode cX5_in 7 = .ok (.if_icmp .gt 7, 3) := by decide +kernel
theorem dX5_in_10 : decode cX5_in 10 = .ok (.iconst 1, 1) := by decide +kernel
theorem dX5_in_11 : decode cX5_in 11 = .ok (.goto 4, 3) := by decide +kernel
theorem dX5_in_14 : decode cX5_in 14 = .ok (.iconst 0, 1) := by decide +kernel
theorem dX5_in_15 : decode cX5_in 15 = .ok (.ireturn, 1) := by decide +kernel
theorem dX5_of_0 : decode cX5_of 0 = .ok (.aload_n 0, 1) := by decide +kernel
theorem dX5_of_1 : decode cX5_of 1 = .ok (.getfield 7, 3) := by decide +kernel
theorem dX5_of_4 : decode cX5_of 4 = .ok (.bipush 54, 2) := by decide +kernel
theorem dX5_of_6 : decode cX5_of 6 = .ok (.bipush 6, 2) := by decide +kernel
theorem dX5_of_8 : decode cX5_of 8 = .ok (.iload_n 1, 1) := by decide +kernel
theorem dX5_of_9 : decode cX5_of 9 = .ok (.imul, 1) := by decide +kernel
theorem dX5_of_10 : decode cX5_of 10 = .ok (.iadd, 1) := by decide +kernel
theorem dX5_of_11 : decode cX5_of 11 = .ok (.iload_n 2, 1) := by decide +kernel
theorem dX5_of_12 : decode cX5_of 12 = .ok (.iadd, 1) := by decide +kernel
theorem dX5_of_13 : decode cX5_of 13 = .ok (.iaload, 1) := by decide +kernel
theorem dX5_of_14 : decode cX5_of 14 = .ok (.ireturn, 1) := by decide +kernel
theorem dX5_lay_0 : decode cX5_lay 0 = .ok (.aload_n 0, 1) := by decide +kernel
theorem dX5_lay_1 : decode cX5_lay 1 = .ok (.getfield 7, 3) := by decide +kernel
theorem dX5_lay_4 : decode cX5_lay 4 = .ok (.bipush 54, 2) := by decide +kernel
theorem dX5_lay_6 : decode cX5_lay 6 = .ok (.bipush 6, 2) := by decide +kernel
theorem dX5_lay_8 : decode cX5_lay 8 = .ok (.iload_n 1, 1) := by decide +kernel
theorem dX5_lay_9 : decode cX5_lay 9 = .ok (.imul, 1) := by decide +kernel
theorem dX5_lay_10 : decode cX5_lay 10 = .ok (.iadd, 1) := by decide +kernel
theorem dX5_lay_11 : decode cX5_lay 11 = .ok (.iload_n 2, 1) := by decide +kernel
theorem dX5_lay_12 : decode cX5_lay 12 = .ok (.iadd, 1) := by decide +kernel
theorem dX5_lay_13 : decode cX5_lay 13 = .ok (.iload_n 3, 1) := by decide +kernel
theorem dX5_lay_14 : decode cX5_lay 14 = .ok (.iastore, 1) := by decide +kernel
theorem dX5_lay_15 : decode cX5_lay 15 = .ok (.return_, 1) := by decide +kernel
theorem dX5_ofExcuse_0 : decode cX5_ofExcuse 0 = .ok (.aload_n 0, 1) := by decide +kernel
theorem dX5_ofExcuse_1 : decode cX5_ofExcuse 1 = .ok (.getfield 7, 3) := by decide +kernel
theorem dX5_ofExcuse_4 : decode cX5_ofExcuse 4 = .ok (.bipush 18, 2) := by decide +kernel
theorem dX5_ofExcuse_6 : decode cX5_ofExcuse 6 = .ok (.iconst 3, 1) := by decide +kernel
theorem dX5_ofExcuse_7 : decode cX5_ofExcuse 7 = .ok (.iload_n 1, 1) := by decide +kernel
theorem dX5_ofExcuse_8 : decode cX5_ofExcuse 8 = .ok (.imul, 1) := by decide +kernel
theorem dX5_ofExcuse_9 : decode cX5_ofExcuse 9 = .ok (.iadd, 1) := by decide +kernel
theorem dX5_ofExcuse_10 : decode cX5_ofExcuse 10 = .ok (.iload_n 2, 1) := by decide +kernel
theorem dX5_ofExcuse_11 : decode cX5_ofExcuse 11 = .ok (.iadd, 1) := by decide +kernel
theorem dX5_ofExcuse_12 : decode cX5_ofExcuse 12 = .ok (.iaload, 1) := by decide +kernel
theorem dX5_ofExcuse_13 : decode cX5_ofExcuse 13 = .ok (.ireturn, 1) := by decide +kernel
set_option maxRecDepth 20000 in
theorem ggX5_isExcuse_X5_in : GoodIn wsX5_isExcuse wsX5_in := goodIn_r _ [5] (by decide +kernel) (by decide +kernel)
set_option maxRecDepth 20000 in
theorem gX5_isExcuse_X5_in : GoodIn wsX5_isExcuse (va_wsS RX5 30 yX5_in wsX5_in) := goodIn_app (goodIn_of _ (by decide +kernel)) ggX5_isExcuse_X5_in
theorem dX5_isExcuse_0 : decode cX5_isExcuse 0 = .ok (.iload_n 1, 1) := by decide +kernel
theorem dX5_isExcuse_1 : decode cX5_isExcuse 1 = .ok (.iconst 0, 1) := by decide +kernel
theorem dX5_isExcuse_2 : decode cX5_isExcuse 2 = .ok (.aload_n 0, 1) := by decide +kernel
theorem dX5_isExcuse_3 : decode cX5_isExcuse 3 = .ok (.getfield 7, 3) := by decide +kernel
theorem dX5_isExcuse_6 : decode cX5_isExcuse 6 = .ok (.iconst 5, 1) := by decide +kernel
theorem dX5_isExcuse_7 : decode cX5_isExcuse 7 = .ok (.iaload, 1) := by decide +kernel
theorem dX5_isExcuse_8 : decode cX5_isExcuse 8 = .ok (.iconst 1, 1) := by decide +kernel
theorem dX5_isExcuse_9 : decode cX5_isExcuse 9 = .ok (.isub, 1) := by decide +kernel
theorem dX5_isExcuse_10 : decode cX5_isExcuse 10 = .ok (.invokestatic 30, 3) := by decide +kernel
theorem dX5_isExcuse_13 : decode cX5_isExcuse 13 = .ok (.ireturn, 1) := by decide +kernel
set_option maxRecDepth 20000 in
theorem ggX5_isPupil_X5_in : GoodIn wsX5_isPupil wsX5_in := goodIn_r _ [4] (by decide +kernel) (by decide +kernel)
set_option maxRecDepth 20000 in
theorem gX5_isPupil_X5_in : GoodIn wsX5_isPupil (va_wsS RX5 30 yX5_in wsX5_in) := goodIn_app (goodIn_of _ (by decide +kernel)) ggX5_isPupil_X5_in
theorem dX5_isPupil_0 : decode cX5_isPupil 0 = .ok (.iload_n 0, 1) := by decide +kernel
theorem dX5_isPupil_1 : decode cX5_isPupil 1 = .ok (.iconst 0, 1) := by decide +kernel
theorem dX5_isPupil_2 : decode cX5_isPupil 2 = .ok (.bipush 9, 2) := by decide +kernel
theorem dX5_isPupil_4 : decode cX5_isPupil 4 = .ok (.invokestatic 30, 3) := by decide +kernel
theorem dX5_isPupil_7 : decode cX5_isPupil 7 = .ok (.ireturn, 1) := by decide +kernel
theorem dX5_copyState_0 : decode cX5_copyState 0 = .ok (.iconst 0, 1) := by decide +kernel
theorem dX5_copyState_1 : decode cX5_copyState 1 = .ok (.istore 4, 2) := by decide +kernel
theorem dX5_copyState_3 : decode cX5_copyState 3 = .ok (.iload 4, 2) := by decide +kernel
theorem dX5_copyState_5 : decode cX5_copyState 5 = .ok (.sipush 234, 3) := by decide +kernel
theorem dX5_copyState_8 : decode cX5_copyState 8 = .ok (.if_icmp .ge 21, 3) := by decide +kernel
theorem dX5_copyState_11 : decode cX5_copyState 11 = .ok (.aload_n 2, 1) := by decide +kernel
theorem dX5_copyState_12 : decode cX5_copyState 12 = .ok (.iload_n 3, 1) := by decide +kernel
theorem dX5_copyState_13 : decode cX5_copyState 13 = .ok (.iload 4, 2) := by decide +kernel
theorem dX5_copyState_15 : decode cX5_copyState 15 = .ok (.iadd, 1) := by decide +kernel
theorem dX5_copyState_16 : decode cX5_copyState 16 = .ok (.aload_n 0, 1) := by decide +kernel
theorem dX5_copyState_17 : decode cX5_copyState 17 = .ok (.iload_n 1, 1) := by decide +kernel
theorem dX5_copyState_18 : decode cX5_copyState 18 = .ok (.iload 4, 2) := by decide +kernel
theorem dX5_copyState_20 : decode cX5_copyState 20 = .ok (.iadd, 1) := by decide +kernel
theorem dX5_copyState_21 : decode cX5_copyState 21 = .ok (.iaload, 1) := by decide +kernel
theorem dX5_copyState_22 : decode cX5_copyState 22 = .ok (.iastore, 1) := by decide +kernel
theorem dX5_copyState_23 : decode cX5_copyState 23 = .ok (.iinc 4 1, 3) := by decide +kernel
theorem dX5_copyState_26 : decode cX5_copyState 26 = .ok (.goto (-23), 3) := by decide +kernel
theorem dX5_copyState_29 : decode cX5_copyState 29 = .ok (.return_, 1) := by decide +kernel
set_option maxRecDepth 20000 in
theorem ggX5_record_X5_copyState : GoodIn wsX5_record wsX5_copyState := goodIn_r _ [7] (by decide +kernel) (by decide +kernel)
set_option maxRecDepth 20000 in
theorem gX5_record_X5_copyState : GoodIn wsX5_record (va_wsS RX5 38 yX5_copyState wsX5_copyState) := goodIn_app (goodIn_of _ (by decide +kernel)) ggX5_record_X5_copyState
theorem dX5_record_0 : decode cX5_record 0 = .ok (.aload_n 0, 1) := by decide +kernel
theorem dX5_record_1 : decode cX5_record 1 = .ok (.getfield 34, 3) := by decide +kernel
theorem dX5_record_4 : decode cX5_record 4 = .ok (.bipush 6, 2) := by decide +kernel
theorem dX5_record_6 : decode cX5_record 6 = .ok (.if_icmp .ne 44, 3) := by decide +kernel
theorem dX5_record_9 : decode cX5_record 9 = .ok (.iconst 0, 1) := by decide +kernel
theorem dX5_record_10 : decode cX5_record 10 = .ok (.istore_n 1, 1) := by decide +kernel
theorem dX5_record_11 : decode cX5_record 11 = .ok (.iload_n 1, 1) := by decide +kernel
theorem dX5_record_12 : decode cX5_record 12 = .ok (.sipush 1170, 3) := by decide +kernel
theorem dX5_record_15 : decode cX5_record 15 = .ok (.if_icmp .ge 25, 3) := by decide +kernel
theorem dX5_record_18 : decode cX5_record 18 = .ok (.aload_n 0, 1) := by decide +kernel
theorem dX5_record_19 : decode cX5_record 19 = .ok (.getfield 13, 3) := by decide +kernel
theorem dX5_record_22 : decode cX5_record 22 = .ok (.iload_n 1, 1) := by decide +kernel
theorem dX5_record_23 : decode cX5_record 23 = .ok (.aload_n 0, 1) := by decide +kernel
theorem dX5_record_24 : decode cX5_record 24 = .ok (.getfield 13, 3) := by decide +kernel
theorem dX5_record_27 : decode cX5_record 27 = .ok (.iload_n 1, 1) := by decide +kernel
theorem dX5_record_28 : decode cX5_record 28 = .ok (.sipush 234, 3) := by decide +kernel
theorem dX5_record_31 : decode cX5_record 31 = .ok (.iadd, 1) := by decide +kernel
theorem dX5_record_32 : decode cX5_record 32 = .ok (.iaload, 1) := by decide +kernel
theorem dX5_record_33 : decode cX5_record 33 = .ok (.iastore, 1) := by decide +kernel
theorem dX5_record_34 : decode cX5_record 34 = .ok (.iinc 1 1, 3) := by decide +kernel
theorem dX5_record_37 : decode cX5_record 37 = .ok (.goto (-26), 3) := by decide +kernel
theorem dX5_record_40 : decode cX5_record 40 = .ok (.aload_n 0, 1) := by decide +kernel
theorem dX5_record_41 : decode cX5_record 41 = .ok (.dup, 1) := by decide +kernel
theorem dX5_record_42 : decode cX5_record 42 = .ok (.getfield 34, 3) := by decide +kernel
theorem dX5_record_45 : decode cX5_record 45 = .ok (.iconst 1, 1) := by decide +kernel
theorem dX5_record_46 : decode cX5_record 46 = .ok (.isub, 1) := by decide +kernel
theorem dX5_record_47 : decode cX5_record 47 = .ok (.putfield 34, 3) := by decide +kernel
theorem dX5_record_50 : decode cX5_record 50 = .ok (.aload_n 0, 1) := by decide +kernel
theorem dX5_record_51 : decode cX5_record 51 = .ok (.getfield 7, 3) := by decide +kernel
theorem dX5_record_54 : decode cX5_record 54 = .ok (.iconst 0, 1) := by decide +kernel
theorem dX5_record_55 : decode cX5_record 55 = .ok (.aload_n 0, 1) := by decide +kernel
theorem dX5_record_56 : decode cX5_record 56 = .ok (.getfield 13, 3) := by decide +kernel
theorem dX5_record_59 : decode cX5_record 59 = .ok (.sipush 234, 3) := by decide +kernel
theorem dX5_record_62 : decode cX5_record 62 = .ok (.aload_n 0, 1) := by decide +kernel
theorem dX5_record_63 : decode cX5_record 63 = .ok (.getfield 34, 3) := by decide +kernel
theorem dX5_record_66 : decode cX5_record 66 = .ok (.imul, 1) := by decide +kernel
theorem dX5_record_67 : decode cX5_record 67 = .ok (.invokestatic 38, 3) := by decide +kernel
theorem dX5_record_70 : decode cX5_record 70 = .ok (.aload_n 0, 1) := by decide +kernel
theorem dX5_record_71 : decode cX5_record 71 = .ok (.dup, 1) := by decide +kernel
theorem dX5_record_72 : decode cX5_record 72 = .ok (.getfield 34, 3) := by decide +kernel
theorem dX5_record_75 : decode cX5_record 75 = .ok (.iconst 1, 1) := by decide +kernel
theorem dX5_record_76 : decode cX5_record 76 = .ok (.iadd, 1) := by decide +kernel
theorem dX5_record_77 : decode cX5_record 77 = .ok (.putfield 34, 3) := by decide +kernel
theorem dX5_record_80 : decode cX5_record 80 = .ok (.return_, 1) := by decide +kernel
set_option maxRecDepth 20000 in
theorem ggX5_undo_X5_copyState : GoodIn wsX5_undo wsX5_copyState := goodIn_r _ [7] (by decide +kernel) (by decide +kernel)
set_option maxRecDepth 20000 in
theorem gX5_undo_X5_copyState : GoodIn wsX5_undo (va_wsS RX5 38 yX5_copyState wsX5_copyState) := goodIn_app (goodIn_of _ (by decide +kernel)) ggX5_undo_X5_copyState
theorem dX5_undo_0 : decode cX5_undo 0 = .ok (.aload_n 0, 1) := by decide +kernel
theorem dX5_undo_1 : decode cX5_undo 1 = .ok (.getfield 34, 3) := by decide +kernel
theorem dX5_undo_4 : decode cX5_undo 4 = .ok (.ifCond .ne 6, 3) := by decide +kernel
theorem dX5_undo_7 : decode cX5_undo 7 = .ok (.bipush (-5), 2) := by decide +kernel
theorem dX5_undo_9 : decode cX5_undo 9 = .ok (.ireturn, 1) := by decide +kernel
theorem dX5_undo_10 : decode cX5_undo 10 = .ok (.aload_n 0, 1) := by decide +kernel
theorem dX5_undo_11 : decode cX5_undo 11 = .ok (.dup, 1) := by decide +kernel
theorem dX5_undo_12 : decode cX5_undo 12 = .ok (.getfield 34, 3) := by decide +kernel
theorem dX5_undo_15 : decode cX5_undo 15 = .ok (.iconst 1, 1) := by decide +kernel
theorem dX5_undo_16 : decode cX5_undo 16 = .ok (.isub, 1) := by decide +kernel
theorem dX5_undo_17 : decode cX5_undo 17 = .ok (.putfield 34, 3) := by decide +kernel
theorem dX5_undo_20 : decode cX5_undo 20 = .ok (.aload_n 0, 1) := by decide +kernel
theorem dX5_undo_21 : decode cX5_undo 21 = .ok (.getfield 13, 3) := by decide +kernel
theorem dX5_undo_24 : decode cX5_undo 24 = .ok (.sipush 234, 3) := by decide +kernel
theorem dX5_undo_27 : decode cX5_undo 27 = .ok (.aload_n 0, 1) := by decide +kernel
theorem dX5_undo_28 : decode cX5_undo 28 = .ok (.getfield 34, 3) := by decide +kernel
theorem dX5_undo_31 : decode cX5_undo 31 = .ok (.imul, 1) := by decide +kernel
theorem dX5_undo_32 : decode cX5_undo 32 = .ok (.aload_n 0, 1) := by decide +kernel
theorem dX5_undo_33 : decode cX5_undo 33 = .ok (.getfield 7, 3) := by decide +kernel
theorem dX5_undo_36 : decode cX5_undo 36 = .ok (.iconst 0, 1) := by decide +kernel
theorem dX5_undo_37 : decode cX5_undo 37 = .ok (.invokestatic 38, 3) := by decide +kernel
theorem dX5_undo_40 : decode cX5_undo 40 = .ok (.aload_n 0, 1) := by decide +kernel
theorem dX5_undo_41 : decode cX5_undo 41 = .ok (.getfield 34, 3) := by decide +kernel
theorem dX5_undo_44 : decode cX5_undo 44 = .ok (.ireturn, 1) := by decide +kernel
set_option maxRecDepth 20000 in
theorem ggX5_save_X5_in : GoodIn wsX5_save wsX5_in := goodIn_r _ [7] (by decide +kernel) (by decide +kernel)
set_option maxRecDepth 20000 in
theorem gX5_save_X5_in : GoodIn wsX5_save (va_wsS RX5 30 yX5_in wsX5_in) := goodIn_app (goodIn_of _ (by decide +kernel)) ggX5_save_X5_in
set_option maxRecDepth 20000 in
theorem ggX5_save_X5_copyState : GoodIn wsX5_save wsX5_copyState := goodIn_r _ [10] (by decide +kernel) (by decide +kernel)
set_option maxRecDepth 20000 in
theorem gX5_save_X5_copyState : GoodIn wsX5_save (va_wsS RX5 38 yX5_copyState wsX5_copyState) := goodIn_app (goodIn_of _ (by decide +kernel)) ggX5_save_X5_copyState
theorem dX5_save_0 : decode cX5_save 0 = .ok (.iload_n 1, 1) := by decide +kernel
theorem dX5_save_1 : decode cX5_save 1 = .ok (.iconst 0, 1) := by decide +kernel
theorem dX5_save_2 : decode cX5_save 2 = .ok (.iconst 1, 1) := by decide +kernel
theorem dX5_save_3 : decode cX5_save 3 = .ok (.invokestatic 30, 3) := by decide +kernel
theorem dX5_save_6 : decode cX5_save 6 = .ok (.ifCond .ne 6, 3) := by decide +kernel
theorem dX5_save_9 : decode cX5_save 9 = .ok (.bipush (-2), 2) := by decide +kernel
theorem dX5_save_11 : decode cX5_save 11 = .ok (.ireturn, 1) := by decide +kernel
theorem dX5_save_12 : decode cX5_save 12 = .ok (.aload_n 0, 1) := by decide +kernel
theorem dX5_save_13 : decode cX5_save 13 = .ok (.getfield 7, 3) := by decide +kernel
theorem dX5_save_16 : decode cX5_save 16 = .ok (.iconst 0, 1) := by decide +kernel
theorem dX5_save_17 : decode cX5_save 17 = .ok (.aload_n 0, 1) := by decide +kernel
theorem dX5_save_18 : decode cX5_save 18 = .ok (.getfield 16, 3) := by decide +kernel
theorem dX5_save_21 : decode cX5_save 21 = .ok (.sipush 234, 3) := by decide +kernel
theorem dX5_save_24 : decode cX5_save 24 = .ok (.iload_n 1, 1) := by decide +kernel
theorem dX5_save_25 : decode cX5_save 25 = .ok (.imul, 1) := by decide +kernel
theorem dX5_save_26 : decode cX5_save 26 = .ok (.invokestatic 38, 3) := by decide +kernel
theorem dX5_save_29 : decode cX5_save 29 = .ok (.aload_n 0, 1) := by decide +kernel
theorem dX5_save_30 : decode cX5_save 30 = .ok (.getfield 19, 3) := by decide +kernel
theorem dX5_save_33 : decode cX5_save 33 = .ok (.iload_n 1, 1) := by decide +kernel
theorem dX5_save_34 : decode cX5_save 34 = .ok (.iconst 1, 1) := by decide +kernel
theorem dX5_save_35 : decode cX5_save 35 = .ok (.bastore, 1) := by decide +kernel
theorem dX5_save_36 : decode cX5_save 36 = .ok (.aload_n 0, 1) := by decide +kernel
theorem dX5_save_37 : decode cX5_save 37 = .ok (.getfield 7, 3) := by decide +kernel
theorem dX5_save_40 : decode cX5_save 40 = .ok (.bipush 11, 2) := by decide +kernel
theorem dX5_save_42 : decode cX5_save 42 = .ok (.iaload, 1) := by decide +kernel
theorem dX5_save_43 : decode cX5_save 43 = .ok (.ireturn, 1) := by decide +kernel
set_option maxRecDepth 20000 in
theorem ggX5_restore_X5_in : GoodIn wsX5_restore wsX5_in := goodIn_r _ [7] (by decide +kernel) (by decide +kernel)
set_option maxRecDepth 20000 in
theorem gX5_restore_X5_in : GoodIn wsX5_restore (va_wsS RX5 30 yX5_in wsX5_in) := goodIn_app (goodIn_of _ (by decide +kernel)) ggX5_restore_X5_in
set_option maxRecDepth 20000 in
theorem ggX5_restore_X5_record : GoodIn wsX5_restore wsX5_record := goodIn_r _ [11, 12, 13, 3, 14, 15, 6, 16, 17, 18, 19, 20, 21, 22, 23, 24, 25, 26, 27, 28] (by decide +kernel) (by decide +kernel)
set_option maxRecDepth 20000 in
theorem gX5_restore_X5_record : GoodIn wsX5_restore (wsV RX5 42 RX5 yX5_record wsX5_record) := goodIn_app (goodIn_of _ (by decide +kernel)) ggX5_restore_X5_record
set_option maxRecDepth 20000 in
theorem ggX5_restore_X5_copyState : GoodIn wsX5_restore wsX5_copyState := goodIn_r _ [16] (by decide +kernel) (by decide +kernel)
set_option maxRecDepth 20000 in
theorem gX5_restore_X5_copyState : GoodIn wsX5_restore (va_wsS RX5 38 yX5_copyState wsX5_copyState) := goodIn_app (goodIn_of _ (by decide +kernel)) ggX5_restore_X5_copyState
theorem dX5_restore_0 : decode cX5_restore 0 = .ok (.iload_n 1, 1) := by decide +kernel
theorem dX5_restore_1 : decode cX5_restore 1 = .ok (.iconst 0, 1) := by decide +kernel
theorem dX5_restore_2 : decode cX5_restore 2 = .ok (.iconst 1, 1) := by decide +kernel
theorem dX5_restore_3 : decode cX5_restore 3 = .ok (.invokestatic 30, 3) := by decide +kernel
theorem dX5_restore_6 : decode cX5_restore 6 = .ok (.ifCond .ne 6, 3) := by decide +kernel
theorem dX5_restore_9 : decode cX5_restore 9 = .ok (.bipush (-2), 2) := by decide +kernel
theorem dX5_restore_11 : decode cX5_restore 11 = .ok (.ireturn, 1) := by decide +kernel
theorem dX5_restore_12 : decode cX5_restore 12 = .ok (.aload_n 0, 1) := by decide +kernel
theorem dX5_restore_13 : decode cX5_restore 13 = .ok (.getfield 19, 3) := by decide +kernel
theorem dX5_restore_16 : decode cX5_restore 16 = .ok (.iload_n 1, 1) := by decide +kernel
theorem dX5_restore_17 : decode cX5_restore 17 = .ok (.baload, 1) := by decide +kernel
theorem dX5_restore_18 : decode cX5_restore 18 = .ok (.ifCond .ne 6, 3) := by decide +kernel
theorem dX5_restore_21 : decode cX5_restore 21 = .ok (.bipush (-5), 2) := by decide +kernel
theorem dX5_restore_23 : decode cX5_restore 23 = .ok (.ireturn, 1) := by decide +kernel
theorem dX5_restore_24 : decode cX5_restore 24 = .ok (.aload_n 0, 1) := by decide +kernel
theorem dX5_restore_25 : decode cX5_restore 25 = .ok (.invokevirtual 42, 3) := by decide +kernel
theorem dX5_restore_28 : decode cX5_restore 28 = .ok (.aload_n 0, 1) := by decide +kernel
theorem dX5_restore_29 : decode cX5_restore 29 = .ok (.getfield 16, 3) := by decide +kernel
theorem dX5_restore_32 : decode cX5_restore 32 = .ok (.sipush 234, 3) := by decide +kernel
theorem dX5_restore_35 : decode cX5_restore 35 = .ok (.iload_n 1, 1) := by decide +kernel
theorem dX5_restore_36 : decode cX5_restore 36 = .ok (.imul, 1) := by decide +kernel
theorem dX5_restore_37 : decode cX5_restore 37 = .ok (.aload_n 0, 1) := by decide +kernel
theorem dX5_restore_38 : decode cX5_restore 38 = .ok (.getfield 7, 3) := by decide +kernel
theorem dX5_restore_41 : decode cX5_restore 41 = .ok (.iconst 0, 1) := by decide +kernel
theorem dX5_restore_42 : decode cX5_restore 42 = .ok (.invokestatic 38, 3) := by decide +kernel
theorem dX5_restore_45 : decode cX5_restore 45 = .ok (.aload_n 0, 1) := by decide +kernel
theorem dX5_restore_46 : decode cX5_restore 46 = .ok (.getfield 7, 3) := by decide +kernel
theorem dX5_restore_49 : decode cX5_restore 49 = .ok (.bipush 11, 2) := by decide +kernel
theorem dX5_restore_51 : decode cX5_restore 51 = .ok (.iaload, 1) := by decide +kernel
theorem dX5_restore_52 : decode cX5_restore 52 = .ok (.ireturn, 1) := by decide +kernel
theorem dX5_uses_0 : decode cX5_uses 0 = .ok (.aload_n 0, 1) := by decide +kernel
theorem dX5_uses_1 : decode cX5_uses 1 = .ok (.getfield 7, 3) := by decide +kernel
theorem dX5_uses_4 : decode cX5_uses 4 = .ok (.bipush 114, 2) := by decide +kernel
theorem dX5_uses_6 : decode cX5_uses 6 = .ok (.bipush 10, 2) := by decide +kernel
theorem dX5_uses_8 : decode cX5_uses 8 = .ok (.iload_n 2, 1) := by decide +kernel
theorem dX5_uses_9 : decode cX5_uses 9 = .ok (.imul, 1) := by decide +kernel
theorem dX5_uses_10 : decode cX5_uses 10 = .ok (.iadd, 1) := by decide +kernel
theorem dX5_uses_11 : decode cX5_uses 11 = .ok (.iload_n 1, 1) := by decide +kernel
theorem dX5_uses_12 : decode cX5_uses 12 = .ok (.iadd, 1) := by decide +kernel
theorem dX5_uses_13 : decode cX5_uses 13 = .ok (.iaload, 1) := by decide +kernel
theorem dX5_uses_14 : decode cX5_uses 14 = .ok (.ireturn, 1) := by decide +kernel
set_option maxRecDepth 20000 in
theorem ggX5_usesBySchool_X5_uses : GoodIn wsX5_usesBySchool wsX5_uses := goodIn_r _ [5, 6, 7, 8, 9, 10, 11, 12, 13, 14, 15, 16, 17, 18] (by decide +kernel) (by decide +kernel)
set_option maxRecDepth 20000 in
theorem gX5_usesBySchool_X5_uses : GoodIn wsX5_usesBySchool (wsV RX5 45 RX5 yX5_uses wsX5_uses) := goodIn_app (goodIn_of _ (by decide +kernel)) ggX5_usesBySchool_X5_uses
theorem dX5_usesBySchool_0 : decode cX5_usesBySchool 0 = .ok (.iconst 0, 1) := by decide +kernel
theorem dX5_usesBySchool_1 : decode cX5_usesBySchool 1 = .ok (.istore_n 2, 1) := by decide +kernel
theorem dX5_usesBySchool_2 : decode cX5_usesBySchool 2 = .ok (.iconst 0, 1) := by decide +kernel
theorem dX5_usesBySchool_3 : decode cX5_usesBySchool 3 = .ok (.istore_n 3, 1) := by decide +kernel
theorem dX5_usesBySchool_4 : decode cX5_usesBySchool 4 = .ok (.iload_n 3, 1) := by decide +kernel
theorem dX5_usesBySchool_5 : decode cX5_usesBySchool 5 = .ok (.bipush 10, 2) := by decide +kernel
theorem dX5_usesBySchool_7 : decode cX5_usesBySchool 7 = .ok (.if_icmp .ge 18, 3) := by decide +kernel
theorem dX5_usesBySchool_10 : decode cX5_usesBySchool 10 = .ok (.iload_n 2, 1) := by decide +kernel
theorem dX5_usesBySchool_11 : decode cX5_usesBySchool 11 = .ok (.aload_n 0, 1) := by decide +kernel
theorem dX5_usesBySchool_12 : decode cX5_usesBySchool 12 = .ok (.iload_n 3, 1) := by decide +kernel
theorem dX5_usesBySchool_13 : decode cX5_usesBySchool 13 = .ok (.iload_n 1, 1) := by decide +kernel
theorem dX5_usesBySchool_14 : decode cX5_usesBySchool 14 = .ok (.invokevirtual 45, 3) := by decide +kernel
theorem dX5_usesBySchool_17 : decode cX5_usesBySchool 17 = .ok (.iadd, 1) := by decide +kernel
theorem dX5_usesBySchool_18 : decode cX5_usesBySchool 18 = .ok (.istore_n 2, 1) := by decide +kernel
theorem dX5_usesBySchool_19 : decode cX5_usesBySchool 19 = .ok (.iinc 3 1, 3) := by decide +kernel
theorem dX5_usesBySchool_22 : decode cX5_usesBySchool 22 = .ok (.goto (-18), 3) := by decide +kernel
theorem dX5_usesBySchool_25 : decode cX5_usesBySchool 25 = .ok (.iload_n 2, 1) := by decide +kernel
theorem dX5_usesBySchool_26 : decode cX5_usesBySchool 26 = .ok (.ireturn, 1) := by decide +kernel
set_option maxRecDepth 20000 in
theorem ggX5_usesByClass_X5_uses : GoodIn wsX5_usesByClass wsX5_uses := goodIn_r _ [5, 6, 7, 8, 9, 10, 11, 12, 13, 14, 15, 16, 17, 18] (by decide +kernel) (by decide +kernel)
set_option maxRecDepth 20000 in
theorem gX5_usesByClass_X5_uses : GoodIn wsX5_usesByClass (wsV RX5 45 RX5 yX5_uses wsX5_uses) := goodIn_app (goodIn_of _ (by decide +kernel)) ggX5_usesByClass_X5_uses
theorem dX5_usesByClass_0 : decode cX5_usesByClass 0 = .ok (.iload_n 1, 1) := by decide +kernel
theorem dX5_usesByClass_1 : decode cX5_usesByClass 1 = .ok (.iload_n 1, 1) := by decide +kernel
theorem dX5_usesByClass_2 : decode cX5_usesByClass 2 = .ok (.iconst 2, 1) := by decide +kernel
theorem dX5_usesByClass_3 : decode cX5_usesByClass 3 = .ok (.irem, 1) := by decide +kernel
theorem dX5_usesByClass_4 : decode cX5_usesByClass 4 = .ok (.isub, 1) := by decide +kernel
theorem dX5_usesByClass_5 : decode cX5_usesByClass 5 = .ok (.istore_n 3, 1) := by decide +kernel
theorem dX5_usesByClass_6 : decode cX5_usesByClass 6 = .ok (.aload_n 0, 1) := by decide +kernel
theorem dX5_usesByClass_7 : decode cX5_usesByClass 7 = .ok (.iload_n 3, 1) := by decide +kernel
theorem dX5_usesByClass_8 : decode cX5_usesByClass 8 = .ok (.iload_n 2, 1) := by decide +kernel
theorem dX5_usesByClass_9 : decode cX5_usesByClass 9 = .ok (.invokevirtual 45, 3) := by decide +kernel
theorem dX5_usesByClass_12 : decode cX5_usesByClass 12 = .ok (.aload_n 0, 1) := by decide +kernel
theorem dX5_usesByClass_13 : decode cX5_usesByClass 13 = .ok (.iload_n 3, 1) := by decide +kernel
theorem dX5_usesByClass_14 : decode cX5_usesByClass 14 = .ok (.iconst 1, 1) := by decide +kernel
theorem dX5_usesByClass_15 : decode cX5_usesByClass 15 = .ok (.iadd, 1) := by decide +kernel
theorem dX5_usesByClass_16 : decode cX5_usesByClass 16 = .ok (.iload_n 2, 1) := by decide +kernel
theorem dX5_usesByClass_17 : decode cX5_usesByClass 17 = .ok (.invokevirtual 45, 3) := by decide +kernel
theorem dX5_usesByClass_20 : decode cX5_usesByClass 20 = .ok (.iadd, 1) := by decide +kernel
theorem dX5_usesByClass_21 : decode cX5_usesByClass 21 = .ok (.ireturn, 1) := by decide +kernel
set_option maxRecDepth 20000 in
theorem ggX5_noveltyOf_X5_usesBySchool : GoodIn wsX5_noveltyOf wsX5_usesBySchool := goodIn_r _ [6, 7, 8, 9, 5, 10, 1, 15, 16, 17, 18, 19, 20, 21, 22, 23, 24, 25, 26] (by decide +kernel) (by decide +kernel)
set_option maxRecDepth 20000 in
theorem gX5_noveltyOf_X5_usesBySchool : GoodIn wsX5_noveltyOf (wsV RX5 49 RX5 yX5_usesBySchool wsX5_usesBySchool) := goodIn_app (goodIn_of _ (by decide +kernel)) ggX5_noveltyOf_X5_usesBySchool
set_option maxRecDepth 20000 in
theorem ggX5_noveltyOf_X5_usesByClass : GoodIn wsX5_noveltyOf wsX5_usesByClass := goodIn_r _ [14, 7, 8, 9, 5, 10, 1, 15, 16, 17, 18, 19, 20, 21, 22, 23, 24, 25, 26] (by decide +kernel) (by decide +kernel)
set_option maxRecDepth 20000 in
theorem gX5_noveltyOf_X5_usesByClass : GoodIn wsX5_noveltyOf (wsV RX5 53 RX5 yX5_usesByClass wsX5_usesByClass) := goodIn_app (goodIn_of _ (by decide +kernel)) ggX5_noveltyOf_X5_usesByClass
theorem dX5_noveltyOf_0 : decode cX5_noveltyOf 0 = .ok (.bipush 100, 2) := by decide +kernel
theorem dX5_noveltyOf_2 : decode cX5_noveltyOf 2 = .ok (.aload_n 0, 1) := by decide +kernel
theorem dX5_noveltyOf_3 : decode cX5_noveltyOf 3 = .ok (.getfield 7, 3) := by decide +kernel
theorem dX5_noveltyOf_6 : decode cX5_noveltyOf 6 = .ok (.iconst 1, 1) := by decide +kernel
theorem dX5_noveltyOf_7 : decode cX5_noveltyOf 7 = .ok (.iaload, 1) := by decide +kernel
theorem dX5_noveltyOf_8 : decode cX5_noveltyOf 8 = .ok (.aload_n 0, 1) := by decide +kernel
theorem dX5_noveltyOf_9 : decode cX5_noveltyOf 9 = .ok (.iload_n 2, 1) := by decide +kernel
theorem dX5_noveltyOf_10 : decode cX5_noveltyOf 10 = .ok (.invokevirtual 49, 3) := by decide +kernel
theorem dX5_noveltyOf_13 : decode cX5_noveltyOf 13 = .ok (.aload_n 0, 1) := by decide +kernel
theorem dX5_noveltyOf_14 : decode cX5_noveltyOf 14 = .ok (.iload_n 1, 1) := by decide +kernel
theorem dX5_noveltyOf_15 : decode cX5_noveltyOf 15 = .ok (.iload_n 2, 1) := by decide +kernel
theorem dX5_noveltyOf_16 : decode cX5_noveltyOf 16 = .ok (.invokevirtual 53, 3) := by decide +kernel
theorem dX5_noveltyOf_19 : decode cX5_noveltyOf 19 = .ok (.iadd, 1) := by decide +kernel
theorem dX5_noveltyOf_20 : decode cX5_noveltyOf 20 = .ok (.imul, 1) := by decide +kernel
theorem dX5_noveltyOf_21 : decode cX5_noveltyOf 21 = .ok (.isub, 1) := by decide +kernel
theorem dX5_noveltyOf_22 : decode cX5_noveltyOf 22 = .ok (.istore_n 3, 1) := by decide +kernel
theorem dX5_noveltyOf_23 : decode cX5_noveltyOf 23 = .ok (.iload_n 3, 1) := by decide +kernel
theorem dX5_noveltyOf_24 : decode cX5_noveltyOf 24 = .ok (.ifCond .ge 7, 3) := by decide +kernel
theorem dX5_noveltyOf_27 : decode cX5_noveltyOf 27 = .ok (.iconst 0, 1) := by decide +kernel
theorem dX5_noveltyOf_28 : decode cX5_noveltyOf 28 = .ok (.goto 4, 3) := by decide +kernel
theorem dX5_noveltyOf_31 : decode cX5_noveltyOf 31 = .ok (.iload_n 3, 1) := by decide +kernel
theorem dX5_noveltyOf_32 : decode cX5_noveltyOf 32 = .ok (.ireturn, 1) := by decide +kernel
theorem dX5_grudge_0 : decode cX5_grudge 0 = .ok (.aload_n 0, 1) := by decide +kernel
theorem dX5_grudge_1 : decode cX5_grudge 1 = .ok (.getfield 7, 3) := by decide +kernel
theorem dX5_grudge_4 : decode cX5_grudge 4 = .ok (.bipush 13, 2) := by decide +kernel
theorem dX5_grudge_6 : decode cX5_grudge 6 = .ok (.iload_n 1, 1) := by decide +kernel
theorem dX5_grudge_7 : decode cX5_grudge 7 = .ok (.iconst 2, 1) := by decide +kernel
theorem dX5_grudge_8 : decode cX5_grudge 8 = .ok (.idiv, 1) := by decide +kernel
theorem dX5_grudge_9 : decode cX5_grudge 9 = .ok (.iadd, 1) := by decide +kernel
theorem dX5_grudge_10 : decode cX5_grudge 10 = .ok (.iaload, 1) := by decide +kernel
theorem dX5_grudge_11 : decode cX5_grudge 11 = .ok (.ireturn, 1) := by decide +kernel
set_option maxRecDepth 20000 in
theorem ggX5_standsBy_X5_of : GoodIn wsX5_standsBy wsX5_of := goodIn_r _ [5, 6, 7, 8, 9, 10, 11, 12, 13, 14, 15, 16, 17, 18] (by decide +kernel) (by decide +kernel)
set_option maxRecDepth 20000 in
theorem gX5_standsBy_X5_of : GoodIn wsX5_standsBy (wsV RX5 56 RX5 yX5_of wsX5_of) := goodIn_app (goodIn_of _ (by decide +kernel)) ggX5_standsBy_X5_of
theorem dX5_standsBy_0 : decode cX5_standsBy 0 = .ok (.iload_n 1, 1) := by decide +kernel
theorem dX5_standsBy_1 : decode cX5_standsBy 1 = .ok (.bipush (-6), 2) := by decide +kernel
theorem dX5_standsBy_3 : decode cX5_standsBy 3 = .ok (.if_icmp .ne 5, 3) := by decide +kernel
theorem dX5_standsBy_6 : decode cX5_standsBy 6 = .ok (.iconst 0, 1) := by decide +kernel
theorem dX5_standsBy_7 : decode cX5_standsBy 7 = .ok (.ireturn, 1) := by decide +kernel
theorem dX5_standsBy_8 : decode cX5_standsBy 8 = .ok (.aload_n 0, 1) := by decide +kernel
theorem dX5_standsBy_9 : decode cX5_standsBy 9 = .ok (.iload_n 1, 1) := by decide +kernel
theorem dX5_standsBy_10 : decode cX5_standsBy 10 = .ok (.iconst 0, 1) := by decide +kernel
theorem dX5_standsBy_11 : decode cX5_standsBy 11 = .ok (.invokevirtual 56, 3) := by decide +kernel
theorem dX5_standsBy_14 : decode cX5_standsBy 14 = .ok (.istore_n 3, 1) := by decide +kernel
theorem dX5_standsBy_15 : decode cX5_standsBy 15 = .ok (.iload_n 1, 1) := by decide +kernel
theorem dX5_standsBy_16 : decode cX5_standsBy 16 = .ok (.iconst 2, 1) := by decide +kernel
theorem dX5_standsBy_17 : decode cX5_standsBy 17 = .ok (.idiv, 1) := by decide +kernel
theorem dX5_standsBy_18 : decode cX5_standsBy 18 = .ok (.iload_n 2, 1) := by decide +kernel
theorem dX5_standsBy_19 : decode cX5_standsBy 19 = .ok (.iconst 2, 1) := by decide +kernel
theorem dX5_standsBy_20 : decode cX5_standsBy 20 = .ok (.idiv, 1) := by decide +kernel
theorem dX5_standsBy_21 : decode cX5_standsBy 21 = .ok (.if_icmp .eq 7, 3) := by decide +kernel
theorem dX5_standsBy_24 : decode cX5_standsBy 24 = .ok (.iload_n 3, 1) := by decide +kernel
theorem dX5_standsBy_25 : decode cX5_standsBy 25 = .ok (.goto 15, 3) := by decide +kernel
theorem dX5_standsBy_28 : decode cX5_standsBy 28 = .ok (.iload_n 3, 1) := by decide +kernel
theorem dX5_standsBy_29 : decode cX5_standsBy 29 = .ok (.iconst 2, 1) := by decide +kernel
theorem dX5_standsBy_30 : decode cX5_standsBy 30 = .ok (.if_icmp .ge 7, 3) := by decide +kernel
theorem dX5_standsBy_33 : decode cX5_standsBy 33 = .ok (.iconst 0, 1) := by decide +kernel
theorem dX5_standsBy_34 : decode cX5_standsBy 34 = .ok (.goto 6, 3) := by decide +kernel
theorem dX5_standsBy_37 : decode cX5_standsBy 37 = .ok (.iload_n 3, 1) := by decide +kernel
theorem dX5_standsBy_38 : decode cX5_standsBy 38 = .ok (.iconst 2, 1) := by decide +kernel
theorem dX5_standsBy_39 : decode cX5_standsBy 39 = .ok (.isub, 1) := by decide +kernel
theorem dX5_standsBy_40 : decode cX5_standsBy 40 = .ok (.ireturn, 1) := by decide +kernel
set_option maxRecDepth 20000 in
theorem ggX5_weightOf_X5_ofExcuse : GoodIn wsX5_weightOf wsX5_ofExcuse := goodIn_r _ [6, 1, 35, 36, 37, 38, 39, 40, 41, 42, 43, 44, 45, 46] (by decide +kernel) (by decide +kernel)
set_option maxRecDepth 20000 in
theorem gX5_weightOf_X5_ofExcuse : GoodIn wsX5_weightOf (wsV RX5 59 RX5 yX5_ofExcuse wsX5_ofExcuse) := goodIn_app (goodIn_of _ (by decide +kernel)) ggX5_weightOf_X5_ofExcuse
set_option maxRecDepth 20000 in
theorem ggX5_weightOf_X5_noveltyOf : GoodIn wsX5_weightOf wsX5_noveltyOf := goodIn_r _ [10, 1, 11, 12, 13, 5, 14, 15, 16, 17, 18, 19, 20, 21, 22, 35, 36, 37, 38, 39, 40, 41, 42, 43, 44, 45, 46] (by decide +kernel) (by decide +kernel)
set_option maxRecDepth 20000 in
theorem gX5_weightOf_X5_noveltyOf : GoodIn wsX5_weightOf (wsV RX5 62 RX5 yX5_noveltyOf wsX5_noveltyOf) := goodIn_app (goodIn_of _ (by decide +kernel)) ggX5_weightOf_X5_noveltyOf
set_option maxRecDepth 20000 in
theorem ggX5_weightOf_X5_grudge : GoodIn wsX5_weightOf wsX5_grudge := goodIn_r _ [26, 1, 35, 36, 37, 38, 39, 40, 41, 42, 43, 44, 45, 46] (by decide +kernel) (by decide +kernel)
set_option maxRecDepth 20000 in
theorem gX5_weightOf_X5_grudge : GoodIn wsX5_weightOf (wsV RX5 65 RX5 yX5_grudge wsX5_grudge) := goodIn_app (goodIn_of _ (by decide +kernel)) ggX5_weightOf_X5_grudge
set_option maxRecDepth 20000 in
theorem ggX5_weightOf_X5_standsBy : GoodIn wsX5_weightOf wsX5_standsBy := goodIn_r _ [30, 31, 32, 33, 5, 34, 1, 35, 36, 37, 38, 39, 40, 41, 42, 43, 44, 45, 46] (by decide +kernel) (by decide +kernel)
set_option maxRecDepth 20000 in
theorem gX5_weightOf_X5_standsBy : GoodIn wsX5_weightOf (wsV RX5 68 RX5 yX5_standsBy wsX5_standsBy) := goodIn_app (goodIn_of _ (by decide +kernel)) ggX5_weightOf_X5_standsBy
theorem dX5_weightOf_0 : decode cX5_weightOf 0 = .ok (.aload_n 0, 1) := by decide +kernel
theorem dX5_weightOf_1 : decode cX5_weightOf 1 = .ok (.iload_n 2, 1) := by decide +kernel
theorem dX5_weightOf_2 : decode cX5_weightOf 2 = .ok (.iconst 1, 1) := by decide +kernel
theorem dX5_weightOf_3 : decode cX5_weightOf 3 = .ok (.invokevirtual 59, 3) := by decide +kernel
theorem dX5_weightOf_6 : decode cX5_weightOf 6 = .ok (.aload_n 0, 1) := by decide +kernel
theorem dX5_weightOf_7 : decode cX5_weightOf 7 = .ok (.iload_n 1, 1) := by decide +kernel
theorem dX5_weightOf_8 : decode cX5_weightOf 8 = .ok (.iload_n 2, 1) := by decide +kernel
theorem dX5_weightOf_9 : decode cX5_weightOf 9 = .ok (.invokevirtual 62, 3) := by decide +kernel
theorem dX5_weightOf_12 : decode cX5_weightOf 12 = .ok (.imul, 1) := by decide +kernel
theorem dX5_weightOf_13 : decode cX5_weightOf 13 = .ok (.bipush 100, 2) := by decide +kernel
theorem dX5_weightOf_15 : decode cX5_weightOf 15 = .ok (.idiv, 1) := by decide +kernel
theorem dX5_weightOf_16 : decode cX5_weightOf 16 = .ok (.aload_n 0, 1) := by decide +kernel
theorem dX5_weightOf_17 : decode cX5_weightOf 17 = .ok (.getfield 7, 3) := by decide +kernel
theorem dX5_weightOf_20 : decode cX5_weightOf 20 = .ok (.iconst 4, 1) := by decide +kernel
theorem dX5_weightOf_21 : decode cX5_weightOf 21 = .ok (.iaload, 1) := by decide +kernel
theorem dX5_weightOf_22 : decode cX5_weightOf 22 = .ok (.aload_n 0, 1) := by decide +kernel
theorem dX5_weightOf_23 : decode cX5_weightOf 23 = .ok (.iload_n 1, 1) := by decide +kernel
theorem dX5_weightOf_24 : decode cX5_weightOf 24 = .ok (.invokevirtual 65, 3) := by decide +kernel
theorem dX5_weightOf_27 : decode cX5_weightOf 27 = .ok (.imul, 1) := by decide +kernel
theorem dX5_weightOf_28 : decode cX5_weightOf 28 = .ok (.isub, 1) := by decide +kernel
theorem dX5_weightOf_29 : decode cX5_weightOf 29 = .ok (.iload 4, 2) := by decide +kernel
theorem dX5_weightOf_31 : decode cX5_weightOf 31 = .ok (.bipush 10, 2) := by decide +kernel
theorem dX5_weightOf_33 : decode cX5_weightOf 33 = .ok (.idiv, 1) := by decide +kernel
theorem dX5_weightOf_34 : decode cX5_weightOf 34 = .ok (.isub, 1) := by decide +kernel
theorem dX5_weightOf_35 : decode cX5_weightOf 35 = .ok (.aload_n 0, 1) := by decide +kernel
theorem dX5_weightOf_36 : decode cX5_weightOf 36 = .ok (.iload_n 3, 1) := by decide +kernel
theorem dX5_weightOf_37 : decode cX5_weightOf 37 = .ok (.iload_n 1, 1) := by decide +kernel
theorem dX5_weightOf_38 : decode cX5_weightOf 38 = .ok (.invokevirtual 68, 3) := by decide +kernel
theorem dX5_weightOf_41 : decode cX5_weightOf 41 = .ok (.iadd, 1) := by decide +kernel
theorem dX5_weightOf_42 : decode cX5_weightOf 42 = .ok (.ireturn, 1) := by decide +kernel
set_option maxRecDepth 20000 in
theorem ggX5_reason_X5_uses : GoodIn wsX5_reason wsX5_uses := goodIn_r _ [6, 1, 39, 40, 41, 42, 43, 44, 45, 46, 47, 48, 49, 50] (by decide +kernel) (by decide +kernel)
set_option maxRecDepth 20000 in
theorem gX5_reason_X5_uses : GoodIn wsX5_reason (wsV RX5 45 RX5 yX5_uses wsX5_uses) := goodIn_app (goodIn_of _ (by decide +kernel)) ggX5_reason_X5_uses
set_option maxRecDepth 20000 in
theorem ggX5_reason_X5_of : GoodIn wsX5_reason wsX5_of := goodIn_r _ [10, 1, 39, 40, 41, 42, 43, 44, 45, 46, 47, 48, 49, 50] (by decide +kernel) (by decide +kernel)
set_option maxRecDepth 20000 in
theorem gX5_reason_X5_of : GoodIn wsX5_reason (wsV RX5 56 RX5 yX5_of wsX5_of) := goodIn_app (goodIn_of _ (by decide +kernel)) ggX5_reason_X5_of
set_option maxRecDepth 20000 in
theorem ggX5_reason_X5_ofExcuse : GoodIn wsX5_reason wsX5_ofExcuse := goodIn_r _ [14, 1, 39, 40, 41, 42, 43, 44, 45, 46, 47, 48, 49, 50] (by decide +kernel) (by decide +kernel)
set_option maxRecDepth 20000 in
theorem gX5_reason_X5_ofExcuse : GoodIn wsX5_reason (wsV RX5 59 RX5 yX5_ofExcuse wsX5_ofExcuse) := goodIn_app (goodIn_of _ (by decide +kernel)) ggX5_reason_X5_ofExcuse
set_option maxRecDepth 20000 in
theorem ggX5_reason_X5_weightOf : GoodIn wsX5_reason wsX5_weightOf := goodIn_r _ [18, 1, 11, 12, 13, 5, 14, 19, 20, 21, 22, 23, 24, 25, 26, 2, 3, 4, 6, 27, 28, 29, 30, 31, 32, 33, 34, 35, 36, 37, 38, 7, 8, 9, 10, 39, 40, 41, 42, 43, 44, 45, 46, 47, 48, 49, 50] (by decide +kernel) (by decide +kernel)
set_option maxRecDepth 20000 in
theorem gX5_reason_X5_weightOf : GoodIn wsX5_reason (wsV RX5 71 RX5 yX5_weightOf wsX5_weightOf) := goodIn_app (goodIn_of _ (by decide +kernel)) ggX5_reason_X5_weightOf
theorem dX5_reason_0 : decode cX5_reason 0 = .ok (.aload_n 0, 1) := by decide +kernel
theorem dX5_reason_1 : decode cX5_reason 1 = .ok (.iload_n 1, 1) := by decide +kernel
theorem dX5_reason_2 : decode cX5_reason 2 = .ok (.iload_n 2, 1) := by decide +kernel
theorem dX5_reason_3 : decode cX5_reason 3 = .ok (.invokevirtual 45, 3) := by decide +kernel
theorem dX5_reason_6 : decode cX5_reason 6 = .ok (.aload_n 0, 1) := by decide +kernel
theorem dX5_reason_7 : decode cX5_reason 7 = .ok (.getfield 7, 3) := by decide +kernel
theorem dX5_reason_10 : decode cX5_reason 10 = .ok (.iconst 2, 1) := by decide +kernel
theorem dX5_reason_11 : decode cX5_reason 11 = .ok (.iaload, 1) := by decide +kernel
theorem dX5_reason_12 : decode cX5_reason 12 = .ok (.if_icmp .lt 5, 3) := by decide +kernel
theorem dX5_reason_15 : decode cX5_reason 15 = .ok (.iconst 1, 1) := by decide +kernel
theorem dX5_reason_16 : decode cX5_reason 16 = .ok (.ireturn, 1) := by decide +kernel
theorem dX5_reason_17 : decode cX5_reason 17 = .ok (.aload_n 0, 1) := by decide +kernel
theorem dX5_reason_18 : decode cX5_reason 18 = .ok (.iload_n 1, 1) := by decide +kernel
theorem dX5_reason_19 : decode cX5_reason 19 = .ok (.iconst 4, 1) := by decide +kernel
theorem dX5_reason_20 : decode cX5_reason 20 = .ok (.invokevirtual 56, 3) := by decide +kernel
theorem dX5_reason_23 : decode cX5_reason 23 = .ok (.aload_n 0, 1) := by decide +kernel
theorem dX5_reason_24 : decode cX5_reason 24 = .ok (.iload_n 2, 1) := by decide +kernel
theorem dX5_reason_25 : decode cX5_reason 25 = .ok (.iconst 0, 1) := by decide +kernel
theorem dX5_reason_26 : decode cX5_reason 26 = .ok (.invokevirtual 59, 3) := by decide +kernel
theorem dX5_reason_29 : decode cX5_reason 29 = .ok (.if_icmp .ne 5, 3) := by decide +kernel
theorem dX5_reason_32 : decode cX5_reason 32 = .ok (.iconst 2, 1) := by decide +kernel
theorem dX5_reason_33 : decode cX5_reason 33 = .ok (.ireturn, 1) := by decide +kernel
theorem dX5_reason_34 : decode cX5_reason 34 = .ok (.iload_n 3, 1) := by decide +kernel
theorem dX5_reason_35 : decode cX5_reason 35 = .ok (.bipush (-6), 2) := by decide +kernel
theorem dX5_reason_37 : decode cX5_reason 37 = .ok (.if_icmp .eq 14, 3) := by decide +kernel
theorem dX5_reason_40 : decode cX5_reason 40 = .ok (.aload_n 0, 1) := by decide +kernel
theorem dX5_reason_41 : decode cX5_reason 41 = .ok (.iload_n 3, 1) := by decide +kernel
theorem dX5_reason_42 : decode cX5_reason 42 = .ok (.iconst 0, 1) := by decide +kernel
theorem dX5_reason_43 : decode cX5_reason 43 = .ok (.invokevirtual 56, 3) := by decide +kernel
theorem dX5_reason_46 : decode cX5_reason 46 = .ok (.ifCond .ne 5, 3) := by decide +kernel
theorem dX5_reason_49 : decode cX5_reason 49 = .ok (.iconst 3, 1) := by decide +kernel
theorem dX5_reason_50 : decode cX5_reason 50 = .ok (.ireturn, 1) := by decide +kernel
theorem dX5_reason_51 : decode cX5_reason 51 = .ok (.aload_n 0, 1) := by decide +kernel
theorem dX5_reason_52 : decode cX5_reason 52 = .ok (.iload_n 1, 1) := by decide +kernel
theorem dX5_reason_53 : decode cX5_reason 53 = .ok (.iload_n 2, 1) := by decide +kernel
theorem dX5_reason_54 : decode cX5_reason 54 = .ok (.iload_n 3, 1) := by decide +kernel
theorem dX5_reason_55 : decode cX5_reason 55 = .ok (.iload 4, 2) := by decide +kernel
theorem dX5_reason_57 : decode cX5_reason 57 = .ok (.invokevirtual 71, 3) := by decide +kernel
theorem dX5_reason_60 : decode cX5_reason 60 = .ok (.aload_n 0, 1) := by decide +kernel
theorem dX5_reason_61 : decode cX5_reason 61 = .ok (.getfield 7, 3) := by decide +kernel
theorem dX5_reason_64 : decode cX5_reason 64 = .ok (.iconst 0, 1) := by decide +kernel
theorem dX5_reason_65 : decode cX5_reason 65 = .ok (.iaload, 1) := by decide +kernel
theorem dX5_reason_66 : decode cX5_reason 66 = .ok (.if_icmp .ge 7, 3) := by decide +kernel
theorem dX5_reason_69 : decode cX5_reason 69 = .ok (.iconst 4, 1) := by decide +kernel
theorem dX5_reason_70 : decode cX5_reason 70 = .ok (.goto 4, 3) := by decide +kernel
theorem dX5_reason_73 : decode cX5_reason 73 = .ok (.iconst 0, 1) := by decide +kernel
theorem dX5_reason_74 : decode cX5_reason 74 = .ok (.ireturn, 1) := by decide +kernel
set_option maxRecDepth 20000 in
theorem ggX5_isValue_X5_in : GoodIn wsX5_isValue wsX5_in := goodIn_r _ [4] (by decide +kernel) (by decide +kernel)
set_option maxRecDepth 20000 in
theorem gX5_isValue_X5_in : GoodIn wsX5_isValue (va_wsS RX5 30 yX5_in wsX5_in) := goodIn_app (goodIn_of _ (by decide +kernel)) ggX5_isValue_X5_in
theorem dX5_isValue_0 : decode cX5_isValue 0 = .ok (.iload_n 0, 1) := by decide +kernel
theorem dX5_isValue_1 : decode cX5_isValue 1 = .ok (.tableswitch 75 0 4 #[35, 43, 51, 59, 67], 35) := by decide +kernel
theorem dX5_isValue_36 : decode cX5_isValue 36 = .ok (.iload_n 1, 1) := by decide +kernel
theorem dX5_isValue_37 : decode cX5_isValue 37 = .ok (.iconst 1, 1) := by decide +kernel
theorem dX5_isValue_38 : decode cX5_isValue 38 = .ok (.bipush 99, 2) := by decide +kernel
theorem dX5_isValue_40 : decode cX5_isValue 40 = .ok (.invokestatic 30, 3) := by decide +kernel
theorem dX5_isValue_43 : decode cX5_isValue 43 = .ok (.ireturn, 1) := by decide +kernel
theorem dX5_isValue_44 : decode cX5_isValue 44 = .ok (.iload_n 1, 1) := by decide +kernel
theorem dX5_isValue_45 : decode cX5_isValue 45 = .ok (.iconst 0, 1) := by decide +kernel
theorem dX5_isValue_46 : decode cX5_isValue 46 = .ok (.bipush 50, 2) := by decide +kernel
theorem dX5_isValue_48 : decode cX5_isValue 48 = .ok (.invokestatic 30, 3) := by decide +kernel
theorem dX5_isValue_51 : decode cX5_isValue 51 = .ok (.ireturn, 1) := by decide +kernel
theorem dX5_isValue_52 : decode cX5_isValue 52 = .ok (.iload_n 1, 1) := by decide +kernel
theorem dX5_isValue_53 : decode cX5_isValue 53 = .ok (.iconst 1, 1) := by decide +kernel
theorem dX5_isValue_54 : decode cX5_isValue 54 = .ok (.bipush 9, 2) := by decide +kernel
theorem dX5_isValue_56 : decode cX5_isValue 56 = .ok (.invokestatic 30, 3) := by decide +kernel
theorem dX5_isValue_59 : decode cX5_isValue 59 = .ok (.ireturn, 1) := by decide +kernel
theorem dX5_isValue_60 : decode cX5_isValue 60 = .ok (.iload_n 1, 1) := by decide +kernel
theorem dX5_isValue_61 : decode cX5_isValue 61 = .ok (.iconst 1, 1) := by decide +kernel
theorem dX5_isValue_62 : decode cX5_isValue 62 = .ok (.bipush 60, 2) := by decide +kernel
theorem dX5_isValue_64 : decode cX5_isValue 64 = .ok (.invokestatic 30, 3) := by decide +kernel
theorem dX5_isValue_67 : decode cX5_isValue 67 = .ok (.ireturn, 1) := by decide +kernel
theorem dX5_isValue_68 : decode cX5_isValue 68 = .ok (.iload_n 1, 1) := by decide +kernel
theorem dX5_isValue_69 : decode cX5_isValue 69 = .ok (.iconst 0, 1) := by decide +kernel
theorem dX5_isValue_70 : decode cX5_isValue 70 = .ok (.bipush 20, 2) := by decide +kernel
theorem dX5_isValue_72 : decode cX5_isValue 72 = .ok (.invokestatic 30, 3) := by decide +kernel
theorem dX5_isValue_75 : decode cX5_isValue 75 = .ok (.ireturn, 1) := by decide +kernel
theorem dX5_isValue_76 : decode cX5_isValue 76 = .ok (.iconst 0, 1) := by decide +kernel
theorem dX5_isValue_77 : decode cX5_isValue 77 = .ok (.ireturn, 1) := by decide +kernel
set_option maxRecDepth 20000 in
theorem ggX5_set_X5_isValue : GoodIn wsX5_set wsX5_isValue := goodIn_r _ [5, 6, 7, 4, 8] (by decide +kernel) (by decide +kernel)
set_option maxRecDepth 20000 in
theorem gX5_set_X5_isValue : GoodIn wsX5_set (va_wsS RX5 75 yX5_isValue wsX5_isValue) := goodIn_app (goodIn_of _ (by decide +kernel)) ggX5_set_X5_isValue
set_option maxRecDepth 20000 in
theorem ggX5_set_X5_record : GoodIn wsX5_set wsX5_record := goodIn_r _ [12, 13, 14, 1, 15, 16, 4, 17, 18, 19, 20, 21, 22, 23, 24, 25, 26, 27, 28, 29] (by decide +kernel) (by decide +kernel)
set_option maxRecDepth 20000 in
theorem gX5_set_X5_record : GoodIn wsX5_set (wsV RX5 42 RX5 yX5_record wsX5_record) := goodIn_app (goodIn_of _ (by decide +kernel)) ggX5_set_X5_record
theorem dX5_set_0 : decode cX5_set 0 = .ok (.iload_n 1, 1) := by decide +kernel
theorem dX5_set_1 : decode cX5_set 1 = .ok (.iload_n 2, 1) := by decide +kernel
theorem dX5_set_2 : decode cX5_set 2 = .ok (.invokestatic 75, 3) := by decide +kernel
theorem dX5_set_5 : decode cX5_set 5 = .ok (.ifCond .ne 6, 3) := by decide +kernel
theorem dX5_set_8 : decode cX5_set 8 = .ok (.bipush (-2), 2) := by decide +kernel
theorem dX5_set_10 : decode cX5_set 10 = .ok (.ireturn, 1) := by decide +kernel
theorem dX5_set_11 : decode cX5_set 11 = .ok (.aload_n 0, 1) := by decide +kernel
theorem dX5_set_12 : decode cX5_set 12 = .ok (.invokevirtual 42, 3) := by decide +kernel
theorem dX5_set_15 : decode cX5_set 15 = .ok (.aload_n 0, 1) := by decide +kernel
theorem dX5_set_16 : decode cX5_set 16 = .ok (.getfield 7, 3) := by decide +kernel
theorem dX5_set_19 : decode cX5_set 19 = .ok (.iload_n 1, 1) := by decide +kernel
theorem dX5_set_20 : decode cX5_set 20 = .ok (.iaload, 1) := by decide +kernel
theorem dX5_set_21 : decode cX5_set 21 = .ok (.istore_n 3, 1) := by decide +kernel
theorem dX5_set_22 : decode cX5_set 22 = .ok (.aload_n 0, 1) := by decide +kernel
theorem dX5_set_23 : decode cX5_set 23 = .ok (.getfield 7, 3) := by decide +kernel
theorem dX5_set_26 : decode cX5_set 26 = .ok (.iload_n 1, 1) := by decide +kernel
theorem dX5_set_27 : decode cX5_set 27 = .ok (.iload_n 2, 1) := by decide +kernel
theorem dX5_set_28 : decode cX5_set 28 = .ok (.iastore, 1) := by decide +kernel
theorem dX5_set_29 : decode cX5_set 29 = .ok (.iload_n 3, 1) := by decide +kernel
theorem dX5_set_30 : decode cX5_set 30 = .ok (.ireturn, 1) := by decide +kernel
set_option maxRecDepth 20000 in
theorem ggX5_add_X5_in : GoodIn wsX5_add wsX5_in := goodIn_r _ [5] (by decide +kernel) (by decide +kernel)
set_option maxRecDepth 20000 in
theorem gX5_add_X5_in : GoodIn wsX5_add (va_wsS RX5 30 yX5_in wsX5_in) := goodIn_app (goodIn_of _ (by decide +kernel)) ggX5_add_X5_in
set_option maxRecDepth 20000 in
theorem ggX5_add_X5_record : GoodIn wsX5_add wsX5_record := goodIn_r _ [9, 10, 11, 1, 12, 13, 4, 14, 15, 16, 17, 18, 19, 20, 21, 22, 23, 24, 25, 26] (by decide +kernel) (by decide +kernel)
set_option maxRecDepth 20000 in
theorem gX5_add_X5_record : GoodIn wsX5_add (wsV RX5 42 RX5 yX5_record wsX5_record) := goodIn_app (goodIn_of _ (by decide +kernel)) ggX5_add_X5_record
theorem dX5_add_0 : decode cX5_add 0 = .ok (.iload_n 1, 1) := by decide +kernel
theorem dX5_add_1 : decode cX5_add 1 = .ok (.iconst 0, 1) := by decide +kernel
theorem dX5_add_2 : decode cX5_add 2 = .ok (.iconst 4, 1) := by decide +kernel
theorem dX5_add_3 : decode cX5_add 3 = .ok (.invokestatic 30, 3) := by decide +kernel
theorem dX5_add_6 : decode cX5_add 6 = .ok (.ifCond .eq 13, 3) := by decide +kernel
theorem dX5_add_9 : decode cX5_add 9 = .ok (.iload_n 2, 1) := by decide +kernel
theorem dX5_add_10 : decode cX5_add 10 = .ok (.iconst 1, 1) := by decide +kernel
theorem dX5_add_11 : decode cX5_add 11 = .ok (.bipush 99, 2) := by decide +kernel
theorem dX5_add_13 : decode cX5_add 13 = .ok (.invokestatic 30, 3) := by decide +kernel
theorem dX5_add_16 : decode cX5_add 16 = .ok (.ifCond .ne 6, 3) := by decide +kernel
theorem dX5_add_19 : decode cX5_add 19 = .ok (.bipush (-2), 2) := by decide +kernel
theorem dX5_add_21 : decode cX5_add 21 = .ok (.ireturn, 1) := by decide +kernel
theorem dX5_add_22 : decode cX5_add 22 = .ok (.aload_n 0, 1) := by decide +kernel
theorem dX5_add_23 : decode cX5_add 23 = .ok (.getfield 7, 3) := by decide +kernel
theorem dX5_add_26 : decode cX5_add 26 = .ok (.iconst 5, 1) := by decide +kernel
theorem dX5_add_27 : decode cX5_add 27 = .ok (.iaload, 1) := by decide +kernel
theorem dX5_add_28 : decode cX5_add 28 = .ok (.bipush 12, 2) := by decide +kernel
theorem dX5_add_30 : decode cX5_add 30 = .ok (.if_icmp .ne 6, 3) := by decide +kernel
theorem dX5_add_33 : decode cX5_add 33 = .ok (.bipush (-4), 2) := by decide +kernel
theorem dX5_add_35 : decode cX5_add 35 = .ok (.ireturn, 1) := by decide +kernel
theorem dX5_add_36 : decode cX5_add 36 = .ok (.aload_n 0, 1) := by decide +kernel
theorem dX5_add_37 : decode cX5_add 37 = .ok (.invokevirtual 42, 3) := by decide +kernel
theorem dX5_add_40 : decode cX5_add 40 = .ok (.bipush 18, 2) := by decide +kernel
theorem dX5_add_42 : decode cX5_add 42 = .ok (.iconst 3, 1) := by decide +kernel
theorem dX5_add_43 : decode cX5_add 43 = .ok (.aload_n 0, 1) := by decide +kernel
theorem dX5_add_44 : decode cX5_add 44 = .ok (.getfield 7, 3) := by decide +kernel
theorem dX5_add_47 : decode cX5_add 47 = .ok (.iconst 5, 1) := by decide +kernel
theorem dX5_add_48 : decode cX5_add 48 = .ok (.iaload, 1) := by decide +kernel
theorem dX5_add_49 : decode cX5_add 49 = .ok (.imul, 1) := by decide +kernel
theorem dX5_add_50 : decode cX5_add 50 = .ok (.iadd, 1) := by decide +kernel
theorem dX5_add_51 : decode cX5_add 51 = .ok (.istore_n 3, 1) := by decide +kernel
theorem dX5_add_52 : decode cX5_add 52 = .ok (.aload_n 0, 1) := by decide +kernel
theorem dX5_add_53 : decode cX5_add 53 = .ok (.getfield 7, 3) := by decide +kernel
theorem dX5_add_56 : decode cX5_add 56 = .ok (.iload_n 3, 1) := by decide +kernel
theorem dX5_add_57 : decode cX5_add 57 = .ok (.iconst 0, 1) := by decide +kernel
theorem dX5_add_58 : decode cX5_add 58 = .ok (.iadd, 1) := by decide +kernel
theorem dX5_add_59 : decode cX5_add 59 = .ok (.iload_n 1, 1) := by decide +kernel
theorem dX5_add_60 : decode cX5_add 60 = .ok (.iastore, 1) := by decide +kernel
theorem dX5_add_61 : decode cX5_add 61 = .ok (.aload_n 0, 1) := by decide +kernel
theorem dX5_add_62 : decode cX5_add 62 = .ok (.getfield 7, 3) := by decide +kernel
theorem dX5_add_65 : decode cX5_add 65 = .ok (.iload_n 3, 1) := by decide +kernel
theorem dX5_add_66 : decode cX5_add 66 = .ok (.iconst 1, 1) := by decide +kernel
theorem dX5_add_67 : decode cX5_add 67 = .ok (.iadd, 1) := by decide +kernel
theorem dX5_add_68 : decode cX5_add 68 = .ok (.iload_n 2, 1) := by decide +kernel
theorem dX5_add_69 : decode cX5_add 69 = .ok (.iastore, 1) := by decide +kernel
theorem dX5_add_70 : decode cX5_add 70 = .ok (.aload_n 0, 1) := by decide +kernel
theorem dX5_add_71 : decode cX5_add 71 = .ok (.getfield 7, 3) := by decide +kernel
theorem dX5_add_74 : decode cX5_add 74 = .ok (.iload_n 3, 1) := by decide +kernel
theorem dX5_add_75 : decode cX5_add 75 = .ok (.iconst 2, 1) := by decide +kernel
theorem dX5_add_76 : decode cX5_add 76 = .ok (.iadd, 1) := by decide +kernel
theorem dX5_add_77 : decode cX5_add 77 = .ok (.iconst 0, 1) := by decide +kernel
theorem dX5_add_78 : decode cX5_add 78 = .ok (.iastore, 1) := by decide +kernel
theorem dX5_add_79 : decode cX5_add 79 = .ok (.aload_n 0, 1) := by decide +kernel
theorem dX5_add_80 : decode cX5_add 80 = .ok (.getfield 7, 3) := by decide +kernel
theorem dX5_add_83 : decode cX5_add 83 = .ok (.iconst 5, 1) := by decide +kernel
theorem dX5_add_84 : decode cX5_add 84 = .ok (.dup2, 1) := by decide +kernel
theorem dX5_add_85 : decode cX5_add 85 = .ok (.iaload, 1) := by decide +kernel
theorem dX5_add_86 : decode cX5_add 86 = .ok (.iconst 1, 1) := by decide +kernel
theorem dX5_add_87 : decode cX5_add 87 = .ok (.iadd, 1) := by decide +kernel
theorem dX5_add_88 : decode cX5_add 88 = .ok (.iastore, 1) := by decide +kernel
theorem dX5_add_89 : decode cX5_add 89 = .ok (.aload_n 0, 1) := by decide +kernel
theorem dX5_add_90 : decode cX5_add 90 = .ok (.getfield 7, 3) := by decide +kernel
theorem dX5_add_93 : decode cX5_add 93 = .ok (.iconst 5, 1) := by decide +kernel
theorem dX5_add_94 : decode cX5_add 94 = .ok (.iaload, 1) := by decide +kernel
theorem dX5_add_95 : decode cX5_add 95 = .ok (.iconst 1, 1) := by decide +kernel
theorem dX5_add_96 : decode cX5_add 96 = .ok (.isub, 1) := by decide +kernel
theorem dX5_add_97 : decode cX5_add 97 = .ok (.ireturn, 1) := by decide +kernel
set_option maxRecDepth 20000 in
theorem ggX5_worth_X5_isExcuse : GoodIn wsX5_worth wsX5_isExcuse := goodIn_r _ [6, 1, 7, 8, 5, 9, 23, 24, 25, 26, 27, 28, 29, 30, 31, 32, 33, 34] (by decide +kernel) (by decide +kernel)
set_option maxRecDepth 20000 in
theorem gX5_worth_X5_isExcuse : GoodIn wsX5_worth (wsV RX5 79 RX5 yX5_isExcuse wsX5_isExcuse) := goodIn_app (goodIn_of _ (by decide +kernel)) ggX5_worth_X5_isExcuse
set_option maxRecDepth 20000 in
theorem ggX5_worth_X5_in : GoodIn wsX5_worth wsX5_in := goodIn_r _ [9] (by decide +kernel) (by decide +kernel)
set_option maxRecDepth 20000 in
theorem gX5_worth_X5_in : GoodIn wsX5_worth (va_wsS RX5 30 yX5_in wsX5_in) := goodIn_app (goodIn_of _ (by decide +kernel)) ggX5_worth_X5_in
set_option maxRecDepth 20000 in
theorem ggX5_worth_X5_record : GoodIn wsX5_worth wsX5_record := goodIn_r _ [13, 14, 15, 1, 16, 17, 5, 18, 23, 24, 25, 26, 27, 28, 29, 30, 31, 32, 33, 34] (by decide +kernel) (by decide +kernel)
set_option maxRecDepth 20000 in
theorem gX5_worth_X5_record : GoodIn wsX5_worth (wsV RX5 42 RX5 yX5_record wsX5_record) := goodIn_app (goodIn_of _ (by decide +kernel)) ggX5_worth_X5_record
set_option maxRecDepth 20000 in
theorem ggX5_worth_X5_ofExcuse : GoodIn wsX5_worth wsX5_ofExcuse := goodIn_r _ [22, 1, 23, 24, 25, 26, 27, 28, 29, 30, 31, 32, 33, 34] (by decide +kernel) (by decide +kernel)
set_option maxRecDepth 20000 in
theorem gX5_worth_X5_ofExcuse : GoodIn wsX5_worth (wsV RX5 59 RX5 yX5_ofExcuse wsX5_ofExcuse) := goodIn_app (goodIn_of _ (by decide +kernel)) ggX5_worth_X5_ofExcuse
theorem dX5_worth_0 : decode cX5_worth 0 = .ok (.aload_n 0, 1) := by decide +kernel
theorem dX5_worth_1 : decode cX5_worth 1 = .ok (.iload_n 1, 1) := by decide +kernel
theorem dX5_worth_2 : decode cX5_worth 2 = .ok (.invokevirtual 79, 3) := by decide +kernel
theorem dX5_worth_5 : decode cX5_worth 5 = .ok (.ifCond .ne 5, 3) := by decide +kernel
theorem dX5_worth_8 : decode cX5_worth 8 = .ok (.iconst (-1), 1) := by decide +kernel
theorem dX5_worth_9 : decode cX5_worth 9 = .ok (.ireturn, 1) := by decide +kernel
theorem dX5_worth_10 : decode cX5_worth 10 = .ok (.iload_n 2, 1) := by decide +kernel
theorem dX5_worth_11 : decode cX5_worth 11 = .ok (.iconst 1, 1) := by decide +kernel
theorem dX5_worth_12 : decode cX5_worth 12 = .ok (.bipush 99, 2) := by decide +kernel
theorem dX5_worth_14 : decode cX5_worth 14 = .ok (.invokestatic 30, 3) := by decide +kernel
theorem dX5_worth_17 : decode cX5_worth 17 = .ok (.ifCond .ne 6, 3) := by decide +kernel
theorem dX5_worth_20 : decode cX5_worth 20 = .ok (.bipush (-2), 2) := by decide +kernel
theorem dX5_worth_22 : decode cX5_worth 22 = .ok (.ireturn, 1) := by decide +kernel
theorem dX5_worth_23 : decode cX5_worth 23 = .ok (.aload_n 0, 1) := by decide +kernel
theorem dX5_worth_24 : decode cX5_worth 24 = .ok (.invokevirtual 42, 3) := by decide +kernel
theorem dX5_worth_27 : decode cX5_worth 27 = .ok (.aload_n 0, 1) := by decide +kernel
theorem dX5_worth_28 : decode cX5_worth 28 = .ok (.iload_n 1, 1) := by decide +kernel
theorem dX5_worth_29 : decode cX5_worth 29 = .ok (.iconst 1, 1) := by decide +kernel
theorem dX5_worth_30 : decode cX5_worth 30 = .ok (.invokevirtual 59, 3) := by decide +kernel
theorem dX5_worth_33 : decode cX5_worth 33 = .ok (.istore_n 3, 1) := by decide +kernel
theorem dX5_worth_34 : decode cX5_worth 34 = .ok (.aload_n 0, 1) := by decide +kernel
theorem dX5_worth_35 : decode cX5_worth 35 = .ok (.getfield 7, 3) := by decide +kernel
theorem dX5_worth_38 : decode cX5_worth 38 = .ok (.bipush 18, 2) := by decide +kernel
theorem dX5_worth_40 : decode cX5_worth 40 = .ok (.iconst 3, 1) := by decide +kernel
theorem dX5_worth_41 : decode cX5_worth 41 = .ok (.iload_n 1, 1) := by decide +kernel
theorem dX5_worth_42 : decode cX5_worth 42 = .ok (.imul, 1) := by decide +kernel
theorem dX5_worth_43 : decode cX5_worth 43 = .ok (.iadd, 1) := by decide +kernel
theorem dX5_worth_44 : decode cX5_worth 44 = .ok (.iconst 1, 1) := by decide +kernel
theorem dX5_worth_45 : decode cX5_worth 45 = .ok (.iadd, 1) := by decide +kernel
theorem dX5_worth_46 : decode cX5_worth 46 = .ok (.iload_n 2, 1) := by decide +kernel
theorem dX5_worth_47 : decode cX5_worth 47 = .ok (.iastore, 1) := by decide +kernel
theorem dX5_worth_48 : decode cX5_worth 48 = .ok (.iload_n 3, 1) := by decide +kernel
theorem dX5_worth_49 : decode cX5_worth 49 = .ok (.ireturn, 1) := by decide +kernel
set_option maxRecDepth 20000 in
theorem ggX5_whyNotOffer_X5_isPupil : GoodIn wsX5_whyNotOffer wsX5_isPupil := goodIn_r _ [4, 5, 6, 3, 7] (by decide +kernel) (by decide +kernel)
set_option maxRecDepth 20000 in
theorem gX5_whyNotOffer_X5_isPupil : GoodIn wsX5_whyNotOffer (va_wsS RX5 83 yX5_isPupil wsX5_isPupil) := goodIn_app (goodIn_of _ (by decide +kernel)) ggX5_whyNotOffer_X5_isPupil
set_option maxRecDepth 20000 in
theorem ggX5_whyNotOffer_X5_isExcuse : GoodIn wsX5_whyNotOffer wsX5_isExcuse := goodIn_r _ [11, 12, 5, 6, 3, 7, 13, 14, 15, 16, 17, 18, 19, 20, 21, 22, 23, 24] (by decide +kernel) (by decide +kernel)
set_option maxRecDepth 20000 in
theorem gX5_whyNotOffer_X5_isExcuse : GoodIn wsX5_whyNotOffer (wsV RX5 79 RX5 yX5_isExcuse wsX5_isExcuse) := goodIn_app (goodIn_of _ (by decide +kernel)) ggX5_whyNotOffer_X5_isExcuse
set_option maxRecDepth 20000 in
theorem ggX5_whyNotOffer_X5_in : GoodIn wsX5_whyNotOffer wsX5_in := goodIn_r _ [7] (by decide +kernel) (by decide +kernel)
set_option maxRecDepth 20000 in
theorem gX5_whyNotOffer_X5_in : GoodIn wsX5_whyNotOffer (va_wsS RX5 30 yX5_in wsX5_in) := goodIn_app (goodIn_of _ (by decide +kernel)) ggX5_whyNotOffer_X5_in
theorem dX5_whyNotOffer_0 : decode cX5_whyNotOffer 0 = .ok (.iload_n 1, 1) := by decide +kernel
theorem dX5_whyNotOffer_1 : decode cX5_whyNotOffer 1 = .ok (.invokestatic 83, 3) := by decide +kernel
theorem dX5_whyNotOffer_4 : decode cX5_whyNotOffer 4 = .ok (.ifCond .eq 24, 3) := by decide +kernel
theorem dX5_whyNotOffer_7 : decode cX5_whyNotOffer 7 = .ok (.aload_n 0, 1) := by decide +kernel
theorem dX5_whyNotOffer_8 : decode cX5_whyNotOffer 8 = .ok (.iload_n 2, 1) := by decide +kernel
theorem dX5_whyNotOffer_9 : decode cX5_whyNotOffer 9 = .ok (.invokevirtual 79, 3) := by decide +kernel
theorem dX5_whyNotOffer_12 : decode cX5_whyNotOffer 12 = .ok (.ifCond .eq 16, 3) := by decide +kernel
theorem dX5_whyNotOffer_15 : decode cX5_whyNotOffer 15 = .ok (.iload_n 3, 1) := by decide +kernel
theorem dX5_whyNotOffer_16 : decode cX5_whyNotOffer 16 = .ok (.bipush (-6), 2) := by decide +kernel
theorem dX5_whyNotOffer_18 : decode cX5_whyNotOffer 18 = .ok (.if_icmp .eq 12, 3) := by decide +kernel
theorem dX5_whyNotOffer_21 : decode cX5_whyNotOffer 21 = .ok (.iload_n 3, 1) := by decide +kernel
theorem dX5_whyNotOffer_22 : decode cX5_whyNotOffer 22 = .ok (.invokestatic 83, 3) := by decide +kernel
theorem dX5_whyNotOffer_25 : decode cX5_whyNotOffer 25 = .ok (.ifCond .ne 5, 3) := by decide +kernel
theorem dX5_whyNotOffer_28 : decode cX5_whyNotOffer 28 = .ok (.iconst (-1), 1) := by decide +kernel
theorem dX5_whyNotOffer_29 : decode cX5_whyNotOffer 29 = .ok (.ireturn, 1) := by decide +kernel
theorem dX5_whyNotOffer_30 : decode cX5_whyNotOffer 30 = .ok (.iload 4, 2) := by decide +kernel
theorem dX5_whyNotOffer_32 : decode cX5_whyNotOffer 32 = .ok (.iconst 1, 1) := by decide +kernel
theorem dX5_whyNotOffer_33 : decode cX5_whyNotOffer 33 = .ok (.bipush 99, 2) := by decide +kernel
theorem dX5_whyNotOffer_35 : decode cX5_whyNotOffer 35 = .ok (.invokestatic 30, 3) := by decide +kernel
theorem dX5_whyNotOffer_38 : decode cX5_whyNotOffer 38 = .ok (.ifCond .eq 12, 3) := by decide +kernel
theorem dX5_whyNotOffer_41 : decode cX5_whyNotOffer 41 = .ok (.iload_n 3, 1) := by decide +kernel
theorem dX5_whyNotOffer_42 : decode cX5_whyNotOffer 42 = .ok (.iload_n 1, 1) := by decide +kernel
theorem dX5_whyNotOffer_43 : decode cX5_whyNotOffer 43 = .ok (.if_icmp .eq 7, 3) := by decide +kernel
theorem dX5_whyNotOffer_46 : decode cX5_whyNotOffer 46 = .ok (.iconst 0, 1) := by decide +kernel
theorem dX5_whyNotOffer_47 : decode cX5_whyNotOffer 47 = .ok (.goto 5, 3) := by decide +kernel
theorem dX5_whyNotOffer_50 : decode cX5_whyNotOffer 50 = .ok (.bipush (-2), 2) := by decide +kernel
theorem dX5_whyNotOffer_52 : decode cX5_whyNotOffer 52 = .ok (.ireturn, 1) := by decide +kernel
theorem dX5_angers_0 : decode cX5_angers 0 = .ok (.bipush 13, 2) := by decide +kernel
theorem dX5_angers_2 : decode cX5_angers 2 = .ok (.iload_n 1, 1) := by decide +kernel
theorem dX5_angers_3 : decode cX5_angers 3 = .ok (.iconst 2, 1) := by decide +kernel
theorem dX5_angers_4 : decode cX5_angers 4 = .ok (.idiv, 1) := by decide +kernel
theorem dX5_angers_5 : decode cX5_angers 5 = .ok (.iadd, 1) := by decide +kernel
theorem dX5_angers_6 : decode cX5_angers 6 = .ok (.istore_n 2, 1) := by decide +kernel
theorem dX5_angers_7 : decode cX5_angers 7 = .ok (.aload_n 0, 1) := by decide +kernel
theorem dX5_angers_8 : decode cX5_angers 8 = .ok (.getfield 7, 3) := by decide +kernel
theorem dX5_angers_11 : decode cX5_angers 11 = .ok (.iload_n 2, 1) := by decide +kernel
theorem dX5_angers_12 : decode cX5_angers 12 = .ok (.aload_n 0, 1) := by decide +kernel
theorem dX5_angers_13 : decode cX5_angers 13 = .ok (.getfield 7, 3) := by decide +kernel
theorem dX5_angers_16 : decode cX5_angers 16 = .ok (.iload_n 2, 1) := by decide +kernel
theorem dX5_angers_17 : decode cX5_angers 17 = .ok (.iaload, 1) := by decide +kernel
theorem dX5_angers_18 : decode cX5_angers 18 = .ok (.bipush 9, 2) := by decide +kernel
theorem dX5_angers_20 : decode cX5_angers 20 = .ok (.if_icmp .ge 14, 3) := by decide +kernel
theorem dX5_angers_23 : decode cX5_angers 23 = .ok (.aload_n 0, 1) := by decide +kernel
theorem dX5_angers_24 : decode cX5_angers 24 = .ok (.getfield 7, 3) := by decide +kernel
theorem dX5_angers_27 : decode cX5_angers 27 = .ok (.iload_n 2, 1) := by decide +kernel
theorem dX5_angers_28 : decode cX5_angers 28 = .ok (.iaload, 1) := by decide +kernel
theorem dX5_angers_29 : decode cX5_angers 29 = .ok (.iconst 1, 1) := by decide +kernel
theorem dX5_angers_30 : decode cX5_angers 30 = .ok (.iadd, 1) := by decide +kernel
theorem dX5_angers_31 : decode cX5_angers 31 = .ok (.goto 5, 3) := by decide +kernel
theorem dX5_angers_34 : decode cX5_angers 34 = .ok (.bipush 9, 2) := by decide +kernel
theorem dX5_angers_36 : decode cX5_angers 36 = .ok (.iastore, 1) := by decide +kernel
theorem dX5_angers_37 : decode cX5_angers 37 = .ok (.return_, 1) := by decide +kernel
set_option maxRecDepth 20000 in
theorem ggX5_loses_X5_of : GoodIn wsX5_loses wsX5_of := goodIn_r _ [5, 6, 11, 12, 13, 14, 15, 16, 17, 18, 19, 20, 21, 22] (by decide +kernel) (by decide +kernel)
set_option maxRecDepth 20000 in
theorem gX5_loses_X5_of : GoodIn wsX5_loses (wsV RX5 56 RX5 yX5_of wsX5_of) := goodIn_app (goodIn_of _ (by decide +kernel)) ggX5_loses_X5_of
set_option maxRecDepth 20000 in
theorem ggX5_loses_X5_lay : GoodIn wsX5_loses wsX5_lay := goodIn_r _ [10, 6, 11, 12, 13, 14, 15, 16, 17, 18, 19, 20, 21, 22] (by decide +kernel) (by decide +kernel)
set_option maxRecDepth 20000 in
theorem gX5_loses_X5_lay : GoodIn wsX5_loses (wsV RX5 26 RX5 yX5_lay wsX5_lay) := goodIn_app (goodIn_of _ (by decide +kernel)) ggX5_loses_X5_lay
theorem dX5_loses_0 : decode cX5_loses 0 = .ok (.iload_n 1, 1) := by decide +kernel
theorem dX5_loses_1 : decode cX5_loses 1 = .ok (.bipush (-6), 2) := by decide +kernel
theorem dX5_loses_3 : decode cX5_loses 3 = .ok (.if_icmp .eq 27, 3) := by decide +kernel
theorem dX5_loses_6 : decode cX5_loses 6 = .ok (.aload_n 0, 1) := by decide +kernel
theorem dX5_loses_7 : decode cX5_loses 7 = .ok (.iload_n 1, 1) := by decide +kernel
theorem dX5_loses_8 : decode cX5_loses 8 = .ok (.iconst 0, 1) := by decide +kernel
theorem dX5_loses_9 : decode cX5_loses 9 = .ok (.invokevirtual 56, 3) := by decide +kernel
theorem dX5_loses_12 : decode cX5_loses 12 = .ok (.iload_n 2, 1) := by decide +kernel
theorem dX5_loses_13 : decode cX5_loses 13 = .ok (.isub, 1) := by decide +kernel
theorem dX5_loses_14 : decode cX5_loses 14 = .ok (.istore_n 3, 1) := by decide +kernel
theorem dX5_loses_15 : decode cX5_loses 15 = .ok (.aload_n 0, 1) := by decide +kernel
theorem dX5_loses_16 : decode cX5_loses 16 = .ok (.iload_n 1, 1) := by decide +kernel
theorem dX5_loses_17 : decode cX5_loses 17 = .ok (.iconst 0, 1) := by decide +kernel
theorem dX5_loses_18 : decode cX5_loses 18 = .ok (.iload_n 3, 1) := by decide +kernel
theorem dX5_loses_19 : decode cX5_loses 19 = .ok (.ifCond .ge 7, 3) := by decide +kernel
theorem dX5_loses_22 : decode cX5_loses 22 = .ok (.iconst 0, 1) := by decide +kernel
theorem dX5_loses_23 : decode cX5_loses 23 = .ok (.goto 4, 3) := by decide +kernel
theorem dX5_loses_26 : decode cX5_loses 26 = .ok (.iload_n 3, 1) := by decide +kernel
theorem dX5_loses_27 : decode cX5_loses 27 = .ok (.invokevirtual 26, 3) := by decide +kernel
theorem dX5_loses_30 : decode cX5_loses 30 = .ok (.return_, 1) := by decide +kernel
set_option maxRecDepth 20000 in
theorem ggX5_offerNow_X5_reason : GoodIn wsX5_offerNow wsX5_reason := goodIn_r _ [6, 1, 7, 8, 9, 5, 10, 11, 12, 13, 14, 15, 16, 17, 18, 19, 20, 21, 22, 23, 24, 25, 26, 27, 28, 29, 30, 31, 32, 33, 34, 35, 36, 37, 38, 39, 40, 41, 42, 55, 56, 57, 58, 59, 60, 61, 62, 63, 64, 65, 66] (by decide +kernel) (by decide +kernel)
set_option maxRecDepth 20000 in
theorem gX5_offerNow_X5_reason : GoodIn wsX5_offerNow (wsV RX5 86 RX5 yX5_reason wsX5_reason) := goodIn_app (goodIn_of _ (by decide +kernel)) ggX5_offerNow_X5_reason
set_option maxRecDepth 20000 in
theorem ggX5_offerNow_X5_ofExcuse : GoodIn wsX5_offerNow wsX5_ofExcuse := goodIn_r _ [18, 1, 55, 56, 57, 58, 59, 60, 61, 62, 63, 64, 65, 66] (by decide +kernel) (by decide +kernel)
set_option maxRecDepth 20000 in
theorem gX5_offerNow_X5_ofExcuse : GoodIn wsX5_offerNow (wsV RX5 59 RX5 yX5_ofExcuse wsX5_ofExcuse) := goodIn_app (goodIn_of _ (by decide +kernel)) ggX5_offerNow_X5_ofExcuse
set_option maxRecDepth 20000 in
theorem ggX5_offerNow_X5_lay : GoodIn wsX5_offerNow wsX5_lay := goodIn_r _ [46, 1, 55, 56, 57, 58, 59, 60, 61, 62, 63, 64, 65, 66] (by decide +kernel) (by decide +kernel)
set_option maxRecDepth 20000 in
theorem gX5_offerNow_X5_lay : GoodIn wsX5_offerNow (wsV RX5 26 RX5 yX5_lay wsX5_lay) := goodIn_app (goodIn_of _ (by decide +kernel)) ggX5_offerNow_X5_lay
set_option maxRecDepth 20000 in
theorem ggX5_offerNow_X5_of : GoodIn wsX5_offerNow wsX5_of := goodIn_r _ [14, 1, 55, 56, 57, 58, 59, 60, 61, 62, 63, 64, 65, 66] (by decide +kernel) (by decide +kernel)
set_option maxRecDepth 20000 in
theorem gX5_offerNow_X5_of : GoodIn wsX5_offerNow (wsV RX5 56 RX5 yX5_of wsX5_of) := goodIn_app (goodIn_of _ (by decide +kernel)) ggX5_offerNow_X5_of
set_option maxRecDepth 20000 in
theorem ggX5_offerNow_X5_angers : GoodIn wsX5_offerNow wsX5_angers := goodIn_r _ [50, 1, 55, 56, 57, 58, 59, 60, 61, 62, 63, 64, 65, 66] (by decide +kernel) (by decide +kernel)
set_option maxRecDepth 20000 in
theorem gX5_offerNow_X5_angers : GoodIn wsX5_offerNow (wsV RX5 89 RX5 yX5_angers wsX5_angers) := goodIn_app (goodIn_of _ (by decide +kernel)) ggX5_offerNow_X5_angers
set_option maxRecDepth 20000 in
theorem ggX5_offerNow_X5_loses : GoodIn wsX5_offerNow wsX5_loses := goodIn_r _ [54, 11, 12, 13, 5, 14, 1, 43, 44, 45, 46, 55, 56, 57, 58, 59, 60, 61, 62, 63, 64, 65, 66] (by decide +kernel) (by decide +kernel)
set_option maxRecDepth 20000 in
theorem gX5_offerNow_X5_loses : GoodIn wsX5_offerNow (wsV RX5 93 RX5 yX5_loses wsX5_loses) := goodIn_app (goodIn_of _ (by decide +kernel)) ggX5_offerNow_X5_loses
theorem dX5_offerNow_0 : decode cX5_offerNow 0 = .ok (.aload_n 0, 1) := by decide +kernel
theorem dX5_offerNow_1 : decode cX5_offerNow 1 = .ok (.iload_n 1, 1) := by decide +kernel
theorem dX5_offerNow_2 : decode cX5_offerNow 2 = .ok (.iload_n 2, 1) := by decide +kernel
theorem dX5_offerNow_3 : decode cX5_offerNow 3 = .ok (.iload_n 3, 1) := by decide +kernel
theorem dX5_offerNow_4 : decode cX5_offerNow 4 = .ok (.iload 4, 2) := by decide +kernel
theorem dX5_offerNow_6 : decode cX5_offerNow 6 = .ok (.invokevirtual 86, 3) := by decide +kernel
theorem dX5_offerNow_9 : decode cX5_offerNow 9 = .ok (.istore 5, 2) := by decide +kernel
theorem dX5_offerNow_11 : decode cX5_offerNow 11 = .ok (.aload_n 0, 1) := by decide +kernel
theorem dX5_offerNow_12 : decode cX5_offerNow 12 = .ok (.iload_n 1, 1) := by decide +kernel
theorem dX5_offerNow_13 : decode cX5_offerNow 13 = .ok (.iconst 4, 1) := by decide +kernel
theorem dX5_offerNow_14 : decode cX5_offerNow 14 = .ok (.aload_n 0, 1) := by decide +kernel
theorem dX5_offerNow_15 : decode cX5_offerNow 15 = .ok (.iload_n 2, 1) := by decide +kernel
theorem dX5_offerNow_16 : decode cX5_offerNow 16 = .ok (.iconst 0, 1) := by decide +kernel
theorem dX5_offerNow_17 : decode cX5_offerNow 17 = .ok (.invokevirtual 59, 3) := by decide +kernel
theorem dX5_offerNow_20 : decode cX5_offerNow 20 = .ok (.invokevirtual 26, 3) := by decide +kernel
theorem dX5_offerNow_23 : decode cX5_offerNow 23 = .ok (.iload 5, 2) := by decide +kernel
theorem dX5_offerNow_25 : decode cX5_offerNow 25 = .ok (.ifCond .le 77, 3) := by decide +kernel
theorem dX5_offerNow_28 : decode cX5_offerNow 28 = .ok (.aload_n 0, 1) := by decide +kernel
theorem dX5_offerNow_29 : decode cX5_offerNow 29 = .ok (.getfield 7, 3) := by decide +kernel
theorem dX5_offerNow_32 : decode cX5_offerNow 32 = .ok (.bipush 6, 2) := by decide +kernel
theorem dX5_offerNow_34 : decode cX5_offerNow 34 = .ok (.iload 5, 2) := by decide +kernel
theorem dX5_offerNow_36 : decode cX5_offerNow 36 = .ok (.iadd, 1) := by decide +kernel
theorem dX5_offerNow_37 : decode cX5_offerNow 37 = .ok (.dup2, 1) := by decide +kernel
theorem dX5_offerNow_38 : decode cX5_offerNow 38 = .ok (.iaload, 1) := by decide +kernel
theorem dX5_offerNow_39 : decode cX5_offerNow 39 = .ok (.iconst 1, 1) := by decide +kernel
theorem dX5_offerNow_40 : decode cX5_offerNow 40 = .ok (.iadd, 1) := by decide +kernel
theorem dX5_offerNow_41 : decode cX5_offerNow 41 = .ok (.iastore, 1) := by decide +kernel
theorem dX5_offerNow_42 : decode cX5_offerNow 42 = .ok (.aload_n 0, 1) := by decide +kernel
theorem dX5_offerNow_43 : decode cX5_offerNow 43 = .ok (.iload_n 1, 1) := by decide +kernel
theorem dX5_offerNow_44 : decode cX5_offerNow 44 = .ok (.iconst 3, 1) := by decide +kernel
theorem dX5_offerNow_45 : decode cX5_offerNow 45 = .ok (.aload_n 0, 1) := by decide +kernel
theorem dX5_offerNow_46 : decode cX5_offerNow 46 = .ok (.iload_n 1, 1) := by decide +kernel
theorem dX5_offerNow_47 : decode cX5_offerNow 47 = .ok (.iconst 3, 1) := by decide +kernel
theorem dX5_offerNow_48 : decode cX5_offerNow 48 = .ok (.invokevirtual 56, 3) := by decide +kernel
theorem dX5_offerNow_51 : decode cX5_offerNow 51 = .ok (.iconst 1, 1) := by decide +kernel
theorem dX5_offerNow_52 : decode cX5_offerNow 52 = .ok (.iadd, 1) := by decide +kernel
theorem dX5_offerNow_53 : decode cX5_offerNow 53 = .ok (.invokevirtual 26, 3) := by decide +kernel
theorem dX5_offerNow_56 : decode cX5_offerNow 56 = .ok (.aload_n 0, 1) := by decide +kernel
theorem dX5_offerNow_57 : decode cX5_offerNow 57 = .ok (.iload_n 1, 1) := by decide +kernel
theorem dX5_offerNow_58 : decode cX5_offerNow 58 = .ok (.iconst 1, 1) := by decide +kernel
theorem dX5_offerNow_59 : decode cX5_offerNow 59 = .ok (.aload_n 0, 1) := by decide +kernel
theorem dX5_offerNow_60 : decode cX5_offerNow 60 = .ok (.iload_n 1, 1) := by decide +kernel
theorem dX5_offerNow_61 : decode cX5_offerNow 61 = .ok (.iconst 1, 1) := by decide +kernel
theorem dX5_offerNow_62 : decode cX5_offerNow 62 = .ok (.invokevirtual 56, 3) := by decide +kernel
theorem dX5_offerNow_65 : decode cX5_offerNow 65 = .ok (.aload_n 0, 1) := by decide +kernel
theorem dX5_offerNow_66 : decode cX5_offerNow 66 = .ok (.getfield 7, 3) := by decide +kernel
theorem dX5_offerNow_69 : decode cX5_offerNow 69 = .ok (.iconst 3, 1) := by decide +kernel
theorem dX5_offerNow_70 : decode cX5_offerNow 70 = .ok (.iaload, 1) := by decide +kernel
theorem dX5_offerNow_71 : decode cX5_offerNow 71 = .ok (.iload 4, 2) := by decide +kernel
theorem dX5_offerNow_73 : decode cX5_offerNow 73 = .ok (.imul, 1) := by decide +kernel
theorem dX5_offerNow_74 : decode cX5_offerNow 74 = .ok (.iadd, 1) := by decide +kernel
theorem dX5_offerNow_75 : decode cX5_offerNow 75 = .ok (.invokevirtual 26, 3) := by decide +kernel
theorem dX5_offerNow_78 : decode cX5_offerNow 78 = .ok (.aload_n 0, 1) := by decide +kernel
theorem dX5_offerNow_79 : decode cX5_offerNow 79 = .ok (.iload_n 1, 1) := by decide +kernel
theorem dX5_offerNow_80 : decode cX5_offerNow 80 = .ok (.invokevirtual 89, 3) := by decide +kernel
theorem dX5_offerNow_83 : decode cX5_offerNow 83 = .ok (.aload_n 0, 1) := by decide +kernel
theorem dX5_offerNow_84 : decode cX5_offerNow 84 = .ok (.iload_n 3, 1) := by decide +kernel
theorem dX5_offerNow_85 : decode cX5_offerNow 85 = .ok (.iload 5, 2) := by decide +kernel
theorem dX5_offerNow_87 : decode cX5_offerNow 87 = .ok (.iconst 4, 1) := by decide +kernel
theorem dX5_offerNow_88 : decode cX5_offerNow 88 = .ok (.if_icmp .ne 7, 3) := by decide +kernel
theorem dX5_offerNow_91 : decode cX5_offerNow 91 = .ok (.iconst 2, 1) := by decide +kernel
theorem dX5_offerNow_92 : decode cX5_offerNow 92 = .ok (.goto 4, 3) := by decide +kernel
theorem dX5_offerNow_95 : decode cX5_offerNow 95 = .ok (.iconst 0, 1) := by decide +kernel
theorem dX5_offerNow_96 : decode cX5_offerNow 96 = .ok (.invokevirtual 93, 3) := by decide +kernel
theorem dX5_offerNow_99 : decode cX5_offerNow 99 = .ok (.iload 5, 2) := by decide +kernel
theorem dX5_offerNow_101 : decode cX5_offerNow 101 = .ok (.ireturn, 1) := by decide +kernel
theorem dX5_offerNow_102 : decode cX5_offerNow 102 = .ok (.aload_n 0, 1) := by decide +kernel
theorem dX5_offerNow_103 : decode cX5_offerNow 103 = .ok (.getfield 7, 3) := by decide +kernel
theorem dX5_offerNow_106 : decode cX5_offerNow 106 = .ok (.bipush 6, 2) := by decide +kernel
theorem dX5_offerNow_108 : decode cX5_offerNow 108 = .ok (.dup2, 1) := by decide +kernel
theorem dX5_offerNow_109 : decode cX5_offerNow 109 = .ok (.iaload, 1) := by decide +kernel
theorem dX5_offerNow_110 : decode cX5_offerNow 110 = .ok (.iconst 1, 1) := by decide +kernel
theorem dX5_offerNow_111 : decode cX5_offerNow 111 = .ok (.iadd, 1) := by decide +kernel
theorem dX5_offerNow_112 : decode cX5_offerNow 112 = .ok (.iastore, 1) := by decide +kernel
theorem dX5_offerNow_113 : decode cX5_offerNow 113 = .ok (.aload_n 0, 1) := by decide +kernel
theorem dX5_offerNow_114 : decode cX5_offerNow 114 = .ok (.getfield 7, 3) := by decide +kernel
theorem dX5_offerNow_117 : decode cX5_offerNow 117 = .ok (.bipush 12, 2) := by decide +kernel
theorem dX5_offerNow_119 : decode cX5_offerNow 119 = .ok (.dup2, 1) := by decide +kernel
theorem dX5_offerNow_120 : decode cX5_offerNow 120 = .ok (.iaload, 1) := by decide +kernel
theorem dX5_offerNow_121 : decode cX5_offerNow 121 = .ok (.iconst 1, 1) := by decide +kernel
theorem dX5_offerNow_122 : decode cX5_offerNow 122 = .ok (.iadd, 1) := by decide +kernel
theorem dX5_offerNow_123 : decode cX5_offerNow 123 = .ok (.iastore, 1) := by decide +kernel
theorem dX5_offerNow_124 : decode cX5_offerNow 124 = .ok (.aload_n 0, 1) := by decide +kernel
theorem dX5_offerNow_125 : decode cX5_offerNow 125 = .ok (.iload_n 1, 1) := by decide +kernel
theorem dX5_offerNow_126 : decode cX5_offerNow 126 = .ok (.iconst 2, 1) := by decide +kernel
theorem dX5_offerNow_127 : decode cX5_offerNow 127 = .ok (.aload_n 0, 1) := by decide +kernel
theorem dX5_offerNow_128 : decode cX5_offerNow 128 = .ok (.iload_n 1, 1) := by decide +kernel
theorem dX5_offerNow_129 : decode cX5_offerNow 129 = .ok (.iconst 2, 1) := by decide +kernel
theorem dX5_offerNow_130 : decode cX5_offerNow 130 = .ok (.invokevirtual 56, 3) := by decide +kernel
theorem dX5_offerNow_133 : decode cX5_offerNow 133 = .ok (.iconst 1, 1) := by decide +kernel
theorem dX5_offerNow_134 : decode cX5_offerNow 134 = .ok (.iadd, 1) := by decide +kernel
theorem dX5_offerNow_135 : decode cX5_offerNow 135 = .ok (.invokevirtual 26, 3) := by decide +kernel
theorem dX5_offerNow_138 : decode cX5_offerNow 138 = .ok (.aload_n 0, 1) := by decide +kernel
theorem dX5_offerNow_139 : decode cX5_offerNow 139 = .ok (.getfield 7, 3) := by decide +kernel
theorem dX5_offerNow_142 : decode cX5_offerNow 142 = .ok (.bipush 114, 2) := by decide +kernel
theorem dX5_offerNow_144 : decode cX5_offerNow 144 = .ok (.bipush 10, 2) := by decide +kernel
theorem dX5_offerNow_146 : decode cX5_offerNow 146 = .ok (.iload_n 2, 1) := by decide +kernel
theorem dX5_offerNow_147 : decode cX5_offerNow 147 = .ok (.imul, 1) := by decide +kernel
theorem dX5_offerNow_148 : decode cX5_offerNow 148 = .ok (.iadd, 1) := by decide +kernel
theorem dX5_offerNow_149 : decode cX5_offerNow 149 = .ok (.iload_n 1, 1) := by decide +kernel
theorem dX5_offerNow_150 : decode cX5_offerNow 150 = .ok (.iadd, 1) := by decide +kernel
theorem dX5_offerNow_151 : decode cX5_offerNow 151 = .ok (.dup2, 1) := by decide +kernel
theorem dX5_offerNow_152 : decode cX5_offerNow 152 = .ok (.iaload, 1) := by decide +kernel
theorem dX5_offerNow_153 : decode cX5_offerNow 153 = .ok (.iconst 1, 1) := by decide +kernel
theorem dX5_offerNow_154 : decode cX5_offerNow 154 = .ok (.iadd, 1) := by decide +kernel
theorem dX5_offerNow_155 : decode cX5_offerNow 155 = .ok (.iastore, 1) := by decide +kernel
theorem dX5_offerNow_156 : decode cX5_offerNow 156 = .ok (.aload_n 0, 1) := by decide +kernel
theorem dX5_offerNow_157 : decode cX5_offerNow 157 = .ok (.getfield 7, 3) := by decide +kernel
theorem dX5_offerNow_160 : decode cX5_offerNow 160 = .ok (.bipush 18, 2) := by decide +kernel
theorem dX5_offerNow_162 : decode cX5_offerNow 162 = .ok (.iconst 3, 1) := by decide +kernel
theorem dX5_offerNow_163 : decode cX5_offerNow 163 = .ok (.iload_n 2, 1) := by decide +kernel
theorem dX5_offerNow_164 : decode cX5_offerNow 164 = .ok (.imul, 1) := by decide +kernel
theorem dX5_offerNow_165 : decode cX5_offerNow 165 = .ok (.iadd, 1) := by decide +kernel
theorem dX5_offerNow_166 : decode cX5_offerNow 166 = .ok (.iconst 2, 1) := by decide +kernel
theorem dX5_offerNow_167 : decode cX5_offerNow 167 = .ok (.iadd, 1) := by decide +kernel
theorem dX5_offerNow_168 : decode cX5_offerNow 168 = .ok (.dup2, 1) := by decide +kernel
theorem dX5_offerNow_169 : decode cX5_offerNow 169 = .ok (.iaload, 1) := by decide +kernel
theorem dX5_offerNow_170 : decode cX5_offerNow 170 = .ok (.iconst 1, 1) := by decide +kernel
theorem dX5_offerNow_171 : decode cX5_offerNow 171 = .ok (.iadd, 1) := by decide +kernel
theorem dX5_offerNow_172 : decode cX5_offerNow 172 = .ok (.iastore, 1) := by decide +kernel
theorem dX5_offerNow_173 : decode cX5_offerNow 173 = .ok (.aload_n 0, 1) := by decide +kernel
theorem dX5_offerNow_174 : decode cX5_offerNow 174 = .ok (.iload_n 3, 1) := by decide +kernel
theorem dX5_offerNow_175 : decode cX5_offerNow 175 = .ok (.iconst 1, 1) := by decide +kernel
theorem dX5_offerNow_176 : decode cX5_offerNow 176 = .ok (.invokevirtual 93, 3) := by decide +kernel
theorem dX5_offerNow_179 : decode cX5_offerNow 179 = .ok (.iload 4, 2) := by decide +kernel
theorem dX5_offerNow_181 : decode cX5_offerNow 181 = .ok (.bipush 30, 2) := by decide +kernel
theorem dX5_offerNow_183 : decode cX5_offerNow 183 = .ok (.if_icmp .le 8, 3) := by decide +kernel
theorem dX5_offerNow_186 : decode cX5_offerNow 186 = .ok (.aload_n 0, 1) := by decide +kernel
theorem dX5_offerNow_187 : decode cX5_offerNow 187 = .ok (.iload_n 1, 1) := by decide +kernel
theorem dX5_offerNow_188 : decode cX5_offerNow 188 = .ok (.invokevirtual 89, 3) := by decide +kernel
theorem dX5_offerNow_191 : decode cX5_offerNow 191 = .ok (.iconst 0, 1) := by decide +kernel
theorem dX5_offerNow_192 : decode cX5_offerNow 192 = .ok (.ireturn, 1) := by decide +kernel
set_option maxRecDepth 20000 in
theorem ggX5_offer_X5_whyNotOffer : GoodIn wsX5_offer wsX5_whyNotOffer := goodIn_r _ [5, 6, 7, 4, 8, 9, 10, 11, 12, 13, 14, 15, 16, 82, 83, 84, 85, 86, 87, 88, 89, 90, 91, 92, 93] (by decide +kernel) (by decide +kernel)
set_option maxRecDepth 20000 in
theorem gX5_offer_X5_whyNotOffer : GoodIn wsX5_offer (wsV RX5 97 RX5 yX5_whyNotOffer wsX5_whyNotOffer) := goodIn_app (goodIn_of _ (by decide +kernel)) ggX5_offer_X5_whyNotOffer
set_option maxRecDepth 20000 in
theorem ggX5_offer_X5_record : GoodIn wsX5_offer wsX5_record := goodIn_r _ [20, 21, 22, 16, 23, 24, 4, 25, 82, 83, 84, 85, 86, 87, 88, 89, 90, 91, 92, 93] (by decide +kernel) (by decide +kernel)
set_option maxRecDepth 20000 in
theorem gX5_offer_X5_record : GoodIn wsX5_offer (wsV RX5 42 RX5 yX5_record wsX5_record) := goodIn_app (goodIn_of _ (by decide +kernel)) ggX5_offer_X5_record
set_option maxRecDepth 20000 in
theorem ggX5_offer_X5_offerNow : GoodIn wsX5_offer wsX5_offerNow := goodIn_r _ [29, 16, 30, 31, 32, 4, 33, 34, 35, 36, 37, 38, 39, 40, 41, 42, 43, 44, 45, 46, 47, 48, 49, 50, 51, 52, 53, 54, 55, 56, 57, 58, 59, 60, 61, 62, 63, 64, 65, 66, 67, 68, 69, 70, 71, 72, 73, 74, 75, 76, 77, 78, 79, 80, 81, 82, 83, 84, 85, 86, 87, 88, 89, 90, 91, 92, 93] (by decide +kernel) (by decide +kernel)
set_option maxRecDepth 20000 in
theorem gX5_offer_X5_offerNow : GoodIn wsX5_offer (wsV RX5 100 RX5 yX5_offerNow wsX5_offerNow) := goodIn_app (goodIn_of _ (by decide +kernel)) ggX5_offer_X5_offerNow
theorem dX5_offer_0 : decode cX5_offer 0 = .ok (.aload_n 0, 1) := by decide +kernel
theorem dX5_offer_1 : decode cX5_offer 1 = .ok (.iload_n 1, 1) := by decide +kernel
theorem dX5_offer_2 : decode cX5_offer 2 = .ok (.iload_n 2, 1) := by decide +kernel
theorem dX5_offer_3 : decode cX5_offer 3 = .ok (.iload_n 3, 1) := by decide +kernel
theorem dX5_offer_4 : decode cX5_offer 4 = .ok (.iload 4, 2) := by decide +kernel
theorem dX5_offer_6 : decode cX5_offer 6 = .ok (.invokevirtual 97, 3) := by decide +kernel
theorem dX5_offer_9 : decode cX5_offer 9 = .ok (.istore 5, 2) := by decide +kernel
theorem dX5_offer_11 : decode cX5_offer 11 = .ok (.iload 5, 2) := by decide +kernel
theorem dX5_offer_13 : decode cX5_offer 13 = .ok (.ifCond .ge 6, 3) := by decide +kernel
theorem dX5_offer_16 : decode cX5_offer 16 = .ok (.iload 5, 2) := by decide +kernel
theorem dX5_offer_18 : decode cX5_offer 18 = .ok (.ireturn, 1) := by decide +kernel
theorem dX5_offer_19 : decode cX5_offer 19 = .ok (.aload_n 0, 1) := by decide +kernel
theorem dX5_offer_20 : decode cX5_offer 20 = .ok (.invokevirtual 42, 3) := by decide +kernel
theorem dX5_offer_23 : decode cX5_offer 23 = .ok (.aload_n 0, 1) := by decide +kernel
theorem dX5_offer_24 : decode cX5_offer 24 = .ok (.iload_n 1, 1) := by decide +kernel
theorem dX5_offer_25 : decode cX5_offer 25 = .ok (.iload_n 2, 1) := by decide +kernel
theorem dX5_offer_26 : decode cX5_offer 26 = .ok (.iload_n 3, 1) := by decide +kernel
theorem dX5_offer_27 : decode cX5_offer 27 = .ok (.iload 4, 2) := by decide +kernel
theorem dX5_offer_29 : decode cX5_offer 29 = .ok (.invokevirtual 100, 3) := by decide +kernel
theorem dX5_offer_32 : decode cX5_offer 32 = .ok (.ireturn, 1) := by decide +kernel
set_option maxRecDepth 20000 in
theorem ggX5_pay_X5_isPupil : GoodIn wsX5_pay wsX5_isPupil := goodIn_r _ [4, 5, 6, 3, 7] (by decide +kernel) (by decide +kernel)
set_option maxRecDepth 20000 in
theorem gX5_pay_X5_isPupil : GoodIn wsX5_pay (va_wsS RX5 83 yX5_isPupil wsX5_isPupil) := goodIn_app (goodIn_of _ (by decide +kernel)) ggX5_pay_X5_isPupil
set_option maxRecDepth 20000 in
theorem ggX5_pay_X5_in : GoodIn wsX5_pay wsX5_in := goodIn_r _ [7] (by decide +kernel) (by decide +kernel)
set_option maxRecDepth 20000 in
theorem gX5_pay_X5_in : GoodIn wsX5_pay (va_wsS RX5 30 yX5_in wsX5_in) := goodIn_app (goodIn_of _ (by decide +kernel)) ggX5_pay_X5_in
set_option maxRecDepth 20000 in
theorem ggX5_pay_X5_of : GoodIn wsX5_pay wsX5_of := goodIn_r _ [11, 12, 26, 27, 28, 29, 30, 31, 32, 33, 34, 35, 36, 37] (by decide +kernel) (by decide +kernel)
set_option maxRecDepth 20000 in
theorem gX5_pay_X5_of : GoodIn wsX5_pay (wsV RX5 56 RX5 yX5_of wsX5_of) := goodIn_app (goodIn_of _ (by decide +kernel)) ggX5_pay_X5_of
set_option maxRecDepth 20000 in
theorem ggX5_pay_X5_record : GoodIn wsX5_pay wsX5_record := goodIn_r _ [16, 17, 18, 12, 19, 20, 3, 21, 26, 27, 28, 29, 30, 31, 32, 33, 34, 35, 36, 37] (by decide +kernel) (by decide +kernel)
set_option maxRecDepth 20000 in
theorem gX5_pay_X5_record : GoodIn wsX5_pay (wsV RX5 42 RX5 yX5_record wsX5_record) := goodIn_app (goodIn_of _ (by decide +kernel)) ggX5_pay_X5_record
set_option maxRecDepth 20000 in
theorem ggX5_pay_X5_lay : GoodIn wsX5_pay wsX5_lay := goodIn_r _ [25, 12, 26, 27, 28, 29, 30, 31, 32, 33, 34, 35, 36, 37] (by decide +kernel) (by decide +kernel)
set_option maxRecDepth 20000 in
theorem gX5_pay_X5_lay : GoodIn wsX5_pay (wsV RX5 26 RX5 yX5_lay wsX5_lay) := goodIn_app (goodIn_of _ (by decide +kernel)) ggX5_pay_X5_lay
theorem dX5_pay_0 : decode cX5_pay 0 = .ok (.iload_n 1, 1) := by decide +kernel
theorem dX5_pay_1 : decode cX5_pay 1 = .ok (.invokestatic 83, 3) := by decide +kernel
theorem dX5_pay_4 : decode cX5_pay 4 = .ok (.ifCond .ne 5, 3) := by decide +kernel
theorem dX5_pay_7 : decode cX5_pay 7 = .ok (.iconst (-1), 1) := by decide +kernel
theorem dX5_pay_8 : decode cX5_pay 8 = .ok (.ireturn, 1) := by decide +kernel
theorem dX5_pay_9 : decode cX5_pay 9 = .ok (.iload_n 2, 1) := by decide +kernel
theorem dX5_pay_10 : decode cX5_pay 10 = .ok (.iconst 1, 1) := by decide +kernel
theorem dX5_pay_11 : decode cX5_pay 11 = .ok (.sipush 9999, 3) := by decide +kernel
theorem dX5_pay_14 : decode cX5_pay 14 = .ok (.invokestatic 30, 3) := by decide +kernel
theorem dX5_pay_17 : decode cX5_pay 17 = .ok (.ifCond .ne 6, 3) := by decide +kernel
theorem dX5_pay_20 : decode cX5_pay 20 = .ok (.bipush (-2), 2) := by decide +kernel
theorem dX5_pay_22 : decode cX5_pay 22 = .ok (.ireturn, 1) := by decide +kernel
theorem dX5_pay_23 : decode cX5_pay 23 = .ok (.aload_n 0, 1) := by decide +kernel
theorem dX5_pay_24 : decode cX5_pay 24 = .ok (.iload_n 1, 1) := by decide +kernel
theorem dX5_pay_25 : decode cX5_pay 25 = .ok (.iconst 1, 1) := by decide +kernel
theorem dX5_pay_26 : decode cX5_pay 26 = .ok (.invokevirtual 56, 3) := by decide +kernel
theorem dX5_pay_29 : decode cX5_pay 29 = .ok (.iload_n 2, 1) := by decide +kernel
theorem dX5_pay_30 : decode cX5_pay 30 = .ok (.if_icmp .ge 6, 3) := by decide +kernel
theorem dX5_pay_33 : decode cX5_pay 33 = .ok (.bipush (-5), 2) := by decide +kernel
theorem dX5_pay_35 : decode cX5_pay 35 = .ok (.ireturn, 1) := by decide +kernel
theorem dX5_pay_36 : decode cX5_pay 36 = .ok (.aload_n 0, 1) := by decide +kernel
theorem dX5_pay_37 : decode cX5_pay 37 = .ok (.invokevirtual 42, 3) := by decide +kernel
theorem dX5_pay_40 : decode cX5_pay 40 = .ok (.aload_n 0, 1) := by decide +kernel
theorem dX5_pay_41 : decode cX5_pay 41 = .ok (.iload_n 1, 1) := by decide +kernel
theorem dX5_pay_42 : decode cX5_pay 42 = .ok (.iconst 1, 1) := by decide +kernel
theorem dX5_pay_43 : decode cX5_pay 43 = .ok (.aload_n 0, 1) := by decide +kernel
theorem dX5_pay_44 : decode cX5_pay 44 = .ok (.iload_n 1, 1) := by decide +kernel
theorem dX5_pay_45 : decode cX5_pay 45 = .ok (.iconst 1, 1) := by decide +kernel
theorem dX5_pay_46 : decode cX5_pay 46 = .ok (.invokevirtual 56, 3) := by decide +kernel
theorem dX5_pay_49 : decode cX5_pay 49 = .ok (.iload_n 2, 1) := by decide +kernel
theorem dX5_pay_50 : decode cX5_pay 50 = .ok (.isub, 1) := by decide +kernel
theorem dX5_pay_51 : decode cX5_pay 51 = .ok (.invokevirtual 26, 3) := by decide +kernel
theorem dX5_pay_54 : decode cX5_pay 54 = .ok (.aload_n 0, 1) := by decide +kernel
theorem dX5_pay_55 : decode cX5_pay 55 = .ok (.iload_n 1, 1) := by decide +kernel
theorem dX5_pay_56 : decode cX5_pay 56 = .ok (.iconst 5, 1) := by decide +kernel
theorem dX5_pay_57 : decode cX5_pay 57 = .ok (.aload_n 0, 1) := by decide +kernel
theorem dX5_pay_58 : decode cX5_pay 58 = .ok (.iload_n 1, 1) := by decide +kernel
theorem dX5_pay_59 : decode cX5_pay 59 = .ok (.iconst 5, 1) := by decide +kernel
theorem dX5_pay_60 : decode cX5_pay 60 = .ok (.invokevirtual 56, 3) := by decide +kernel
theorem dX5_pay_63 : decode cX5_pay 63 = .ok (.iload_n 2, 1) := by decide +kernel
theorem dX5_pay_64 : decode cX5_pay 64 = .ok (.iadd, 1) := by decide +kernel
theorem dX5_pay_65 : decode cX5_pay 65 = .ok (.invokevirtual 26, 3) := by decide +kernel
theorem dX5_pay_68 : decode cX5_pay 68 = .ok (.aload_n 0, 1) := by decide +kernel
theorem dX5_pay_69 : decode cX5_pay 69 = .ok (.iload_n 1, 1) := by decide +kernel
theorem dX5_pay_70 : decode cX5_pay 70 = .ok (.iconst 1, 1) := by decide +kernel
theorem dX5_pay_71 : decode cX5_pay 71 = .ok (.invokevirtual 56, 3) := by decide +kernel
theorem dX5_pay_74 : decode cX5_pay 74 = .ok (.ireturn, 1) := by decide +kernel
set_option maxRecDepth 20000 in
theorem ggX5_endTerm_X5_record : GoodIn wsX5_endTerm wsX5_record := goodIn_r _ [6, 7, 8, 1, 9, 10, 5, 11, 20, 21, 22, 23, 24, 25, 26, 27, 28, 29, 30, 31] (by decide +kernel) (by decide +kernel)
set_option maxRecDepth 20000 in
theorem gX5_endTerm_X5_record : GoodIn wsX5_endTerm (wsV RX5 42 RX5 yX5_record wsX5_record) := goodIn_app (goodIn_of _ (by decide +kernel)) ggX5_endTerm_X5_record
set_option maxRecDepth 20000 in
theorem ggX5_endTerm_X5_lay : GoodIn wsX5_endTerm wsX5_lay := goodIn_r _ [15, 1, 20, 21, 22, 23, 24, 25, 26, 27, 28, 29, 30, 31] (by decide +kernel) (by decide +kernel)
set_option maxRecDepth 20000 in
theorem gX5_endTerm_X5_lay : GoodIn wsX5_endTerm (wsV RX5 26 RX5 yX5_lay wsX5_lay) := goodIn_app (goodIn_of _ (by decide +kernel)) ggX5_endTerm_X5_lay
set_option maxRecDepth 20000 in
theorem ggX5_endTerm_X5_of : GoodIn wsX5_endTerm wsX5_of := goodIn_r _ [19, 1, 20, 21, 22, 23, 24, 25, 26, 27, 28, 29, 30, 31] (by decide +kernel) (by decide +kernel)
set_option maxRecDepth 20000 in
theorem gX5_endTerm_X5_of : GoodIn wsX5_endTerm (wsV RX5 56 RX5 yX5_of wsX5_of) := goodIn_app (goodIn_of _ (by decide +kernel)) ggX5_endTerm_X5_of
theorem dX5_endTerm_0 : decode cX5_endTerm 0 = .ok (.aload_n 0, 1) := by decide +kernel
theorem dX5_endTerm_1 : decode cX5_endTerm 1 = .ok (.invokevirtual 42, 3) := by decide +kernel
theorem dX5_endTerm_4 : decode cX5_endTerm 4 = .ok (.aload_n 0, 1) := by decide +kernel
theorem dX5_endTerm_5 : decode cX5_endTerm 5 = .ok (.getfield 7, 3) := by decide +kernel
theorem dX5_endTerm_8 : decode cX5_endTerm 8 = .ok (.bipush 12, 2) := by decide +kernel
theorem dX5_endTerm_10 : decode cX5_endTerm 10 = .ok (.iaload, 1) := by decide +kernel
theorem dX5_endTerm_11 : decode cX5_endTerm 11 = .ok (.istore_n 1, 1) := by decide +kernel
theorem dX5_endTerm_12 : decode cX5_endTerm 12 = .ok (.aload_n 0, 1) := by decide +kernel
theorem dX5_endTerm_13 : decode cX5_endTerm 13 = .ok (.getfield 7, 3) := by decide +kernel
theorem dX5_endTerm_16 : decode cX5_endTerm 16 = .ok (.bipush 12, 2) := by decide +kernel
theorem dX5_endTerm_18 : decode cX5_endTerm 18 = .ok (.iconst 0, 1) := by decide +kernel
theorem dX5_endTerm_19 : decode cX5_endTerm 19 = .ok (.iastore, 1) := by decide +kernel
theorem dX5_endTerm_20 : decode cX5_endTerm 20 = .ok (.aload_n 0, 1) := by decide +kernel
theorem dX5_endTerm_21 : decode cX5_endTerm 21 = .ok (.getfield 7, 3) := by decide +kernel
theorem dX5_endTerm_24 : decode cX5_endTerm 24 = .ok (.bipush 11, 2) := by decide +kernel
theorem dX5_endTerm_26 : decode cX5_endTerm 26 = .ok (.dup2, 1) := by decide +kernel
theorem dX5_endTerm_27 : decode cX5_endTerm 27 = .ok (.iaload, 1) := by decide +kernel
theorem dX5_endTerm_28 : decode cX5_endTerm 28 = .ok (.iconst 1, 1) := by decide +kernel
theorem dX5_endTerm_29 : decode cX5_endTerm 29 = .ok (.iadd, 1) := by decide +kernel
theorem dX5_endTerm_30 : decode cX5_endTerm 30 = .ok (.iastore, 1) := by decide +kernel
theorem dX5_endTerm_31 : decode cX5_endTerm 31 = .ok (.iconst 0, 1) := by decide +kernel
theorem dX5_endTerm_32 : decode cX5_endTerm 32 = .ok (.istore_n 2, 1) := by decide +kernel
theorem dX5_endTerm_33 : decode cX5_endTerm 33 = .ok (.iload_n 2, 1) := by decide +kernel
theorem dX5_endTerm_34 : decode cX5_endTerm 34 = .ok (.bipush 120, 2) := by decide +kernel
theorem dX5_endTerm_36 : decode cX5_endTerm 36 = .ok (.if_icmp .ge 19, 3) := by decide +kernel
theorem dX5_endTerm_39 : decode cX5_endTerm 39 = .ok (.aload_n 0, 1) := by decide +kernel
theorem dX5_endTerm_40 : decode cX5_endTerm 40 = .ok (.getfield 7, 3) := by decide +kernel
theorem dX5_endTerm_43 : decode cX5_endTerm 43 = .ok (.bipush 114, 2) := by decide +kernel
theorem dX5_endTerm_45 : decode cX5_endTerm 45 = .ok (.iload_n 2, 1) := by decide +kernel
theorem dX5_endTerm_46 : decode cX5_endTerm 46 = .ok (.iadd, 1) := by decide +kernel
theorem dX5_endTerm_47 : decode cX5_endTerm 47 = .ok (.iconst 0, 1) := by decide +kernel
theorem dX5_endTerm_48 : decode cX5_endTerm 48 = .ok (.iastore, 1) := by decide +kernel
theorem dX5_endTerm_49 : decode cX5_endTerm 49 = .ok (.iinc 2 1, 3) := by decide +kernel
theorem dX5_endTerm_52 : decode cX5_endTerm 52 = .ok (.goto (-19), 3) := by decide +kernel
theorem dX5_endTerm_55 : decode cX5_endTerm 55 = .ok (.iconst 0, 1) := by decide +kernel
theorem dX5_endTerm_56 : decode cX5_endTerm 56 = .ok (.istore_n 2, 1) := by decide +kernel
theorem dX5_endTerm_57 : decode cX5_endTerm 57 = .ok (.iload_n 2, 1) := by decide +kernel
theorem dX5_endTerm_58 : decode cX5_endTerm 58 = .ok (.iconst 5, 1) := by decide +kernel
theorem dX5_endTerm_59 : decode cX5_endTerm 59 = .ok (.if_icmp .ge 29, 3) := by decide +kernel
theorem dX5_endTerm_62 : decode cX5_endTerm 62 = .ok (.aload_n 0, 1) := by decide +kernel
theorem dX5_endTerm_63 : decode cX5_endTerm 63 = .ok (.getfield 7, 3) := by decide +kernel
theorem dX5_endTerm_66 : decode cX5_endTerm 66 = .ok (.bipush 13, 2) := by decide +kernel
theorem dX5_endTerm_68 : decode cX5_endTerm 68 = .ok (.iload_n 2, 1) := by decide +kernel
theorem dX5_endTerm_69 : decode cX5_endTerm 69 = .ok (.iadd, 1) := by decide +kernel
theorem dX5_endTerm_70 : decode cX5_endTerm 70 = .ok (.aload_n 0, 1) := by decide +kernel
theorem dX5_endTerm_71 : decode cX5_endTerm 71 = .ok (.getfield 7, 3) := by decide +kernel
theorem dX5_endTerm_74 : decode cX5_endTerm 74 = .ok (.bipush 13, 2) := by decide +kernel
theorem dX5_endTerm_76 : decode cX5_endTerm 76 = .ok (.iload_n 2, 1) := by decide +kernel
theorem dX5_endTerm_77 : decode cX5_endTerm 77 = .ok (.iadd, 1) := by decide +kernel
theorem dX5_endTerm_78 : decode cX5_endTerm 78 = .ok (.iaload, 1) := by decide +kernel
theorem dX5_endTerm_79 : decode cX5_endTerm 79 = .ok (.iconst 2, 1) := by decide +kernel
theorem dX5_endTerm_80 : decode cX5_endTerm 80 = .ok (.idiv, 1) := by decide +kernel
theorem dX5_endTerm_81 : decode cX5_endTerm 81 = .ok (.iastore, 1) := by decide +kernel
theorem dX5_endTerm_82 : decode cX5_endTerm 82 = .ok (.iinc 2 1, 3) := by decide +kernel
theorem dX5_endTerm_85 : decode cX5_endTerm 85 = .ok (.goto (-28), 3) := by decide +kernel
theorem dX5_endTerm_88 : decode cX5_endTerm 88 = .ok (.iconst 0, 1) := by decide +kernel
theorem dX5_endTerm_89 : decode cX5_endTerm 89 = .ok (.istore_n 2, 1) := by decide +kernel
theorem dX5_endTerm_90 : decode cX5_endTerm 90 = .ok (.iload_n 2, 1) := by decide +kernel
theorem dX5_endTerm_91 : decode cX5_endTerm 91 = .ok (.bipush 10, 2) := by decide +kernel
theorem dX5_endTerm_93 : decode cX5_endTerm 93 = .ok (.if_icmp .ge 47, 3) := by decide +kernel
theorem dX5_endTerm_96 : decode cX5_endTerm 96 = .ok (.aload_n 0, 1) := by decide +kernel
theorem dX5_endTerm_97 : decode cX5_endTerm 97 = .ok (.iload_n 2, 1) := by decide +kernel
theorem dX5_endTerm_98 : decode cX5_endTerm 98 = .ok (.iconst 4, 1) := by decide +kernel
theorem dX5_endTerm_99 : decode cX5_endTerm 99 = .ok (.bipush (-6), 2) := by decide +kernel
theorem dX5_endTerm_101 : decode cX5_endTerm 101 = .ok (.invokevirtual 26, 3) := by decide +kernel
theorem dX5_endTerm_104 : decode cX5_endTerm 104 = .ok (.aload_n 0, 1) := by decide +kernel
theorem dX5_endTerm_105 : decode cX5_endTerm 105 = .ok (.iload_n 2, 1) := by decide +kernel
theorem dX5_endTerm_106 : decode cX5_endTerm 106 = .ok (.iconst 0, 1) := by decide +kernel
theorem dX5_endTerm_107 : decode cX5_endTerm 107 = .ok (.aload_n 0, 1) := by decide +kernel
theorem dX5_endTerm_108 : decode cX5_endTerm 108 = .ok (.iload_n 2, 1) := by decide +kernel
theorem dX5_endTerm_109 : decode cX5_endTerm 109 = .ok (.iconst 0, 1) := by decide +kernel
theorem dX5_endTerm_110 : decode cX5_endTerm 110 = .ok (.invokevirtual 56, 3) := by decide +kernel
theorem dX5_endTerm_113 : decode cX5_endTerm 113 = .ok (.bipush 7, 2) := by decide +kernel
theorem dX5_endTerm_115 : decode cX5_endTerm 115 = .ok (.if_icmp .le 8, 3) := by decide +kernel
theorem dX5_endTerm_118 : decode cX5_endTerm 118 = .ok (.bipush 9, 2) := by decide +kernel
theorem dX5_endTerm_120 : decode cX5_endTerm 120 = .ok (.goto 11, 3) := by decide +kernel
theorem dX5_endTerm_123 : decode cX5_endTerm 123 = .ok (.aload_n 0, 1) := by decide +kernel
theorem dX5_endTerm_124 : decode cX5_endTerm 124 = .ok (.iload_n 2, 1) := by decide +kernel
theorem dX5_endTerm_125 : decode cX5_endTerm 125 = .ok (.iconst 0, 1) := by decide +kernel
theorem dX5_endTerm_126 : decode cX5_endTerm 126 = .ok (.invokevirtual 56, 3) := by decide +kernel
theorem dX5_endTerm_129 : decode cX5_endTerm 129 = .ok (.iconst 2, 1) := by decide +kernel
theorem dX5_endTerm_130 : decode cX5_endTerm 130 = .ok (.iadd, 1) := by decide +kernel
theorem dX5_endTerm_131 : decode cX5_endTerm 131 = .ok (.invokevirtual 26, 3) := by decide +kernel
theorem dX5_endTerm_134 : decode cX5_endTerm 134 = .ok (.iinc 2 1, 3) := by decide +kernel
theorem dX5_endTerm_137 : decode cX5_endTerm 137 = .ok (.goto (-47), 3) := by decide +kernel
theorem dX5_endTerm_140 : decode cX5_endTerm 140 = .ok (.iload_n 1, 1) := by decide +kernel
theorem dX5_endTerm_141 : decode cX5_endTerm 141 = .ok (.ireturn, 1) := by decide +kernel
set_option maxRecDepth 20000 in
theorem ggX5_put_X5_in : GoodIn wsX5_put wsX5_in := goodIn_r _ [7] (by decide +kernel) (by decide +kernel)
set_option maxRecDepth 20000 in
theorem gX5_put_X5_in : GoodIn wsX5_put (va_wsS RX5 30 yX5_in wsX5_in) := goodIn_app (goodIn_of _ (by decide +kernel)) ggX5_put_X5_in
theorem dX5_put_0 : decode cX5_put 0 = .ok (.lload_n 1, 1) := by decide +kernel
theorem dX5_put_1 : decode cX5_put 1 = .ok (.lstore_n 3, 1) := by decide +kernel
theorem dX5_put_2 : decode cX5_put 2 = .ok (.iconst 0, 1) := by decide +kernel
theorem dX5_put_3 : decode cX5_put 3 = .ok (.istore 5, 2) := by decide +kernel
theorem dX5_put_5 : decode cX5_put 5 = .ok (.lload_n 3, 1) := by decide +kernel
theorem dX5_put_6 : decode cX5_put 6 = .ok (.lconst 0, 1) := by decide +kernel
theorem dX5_put_7 : decode cX5_put 7 = .ok (.lcmp, 1) := by decide +kernel
theorem dX5_put_8 : decode cX5_put 8 = .ok (.ifCond .eq 40, 3) := by decide +kernel
theorem dX5_put_11 : decode cX5_put 11 = .ok (.iload 5, 2) := by decide +kernel
theorem dX5_put_13 : decode cX5_put 13 = .ok (.bipush 8, 2) := by decide +kernel
theorem dX5_put_15 : decode cX5_put 15 = .ok (.if_icmp .ge 33, 3) := by decide +kernel
theorem dX5_put_18 : decode cX5_put 18 = .ok (.lload_n 3, 1) := by decide +kernel
theorem dX5_put_19 : decode cX5_put 19 = .ok (.ldc2_w 103, 3) := by decide +kernel
theorem dX5_put_22 : decode cX5_put 22 = .ok (.land, 1) := by decide +kernel
theorem dX5_put_23 : decode cX5_put 23 = .ok (.l2i, 1) := by decide +kernel
theorem dX5_put_24 : decode cX5_put 24 = .ok (.bipush 33, 2) := by decide +kernel
theorem dX5_put_26 : decode cX5_put 26 = .ok (.bipush 126, 2) := by decide +kernel
theorem dX5_put_28 : decode cX5_put 28 = .ok (.invokestatic 30, 3) := by decide +kernel
theorem dX5_put_31 : decode cX5_put 31 = .ok (.ifCond .ne 6, 3) := by decide +kernel
theorem dX5_put_34 : decode cX5_put 34 = .ok (.bipush (-2), 2) := by decide +kernel
theorem dX5_put_36 : decode cX5_put 36 = .ok (.ireturn, 1) := by decide +kernel
theorem dX5_put_37 : decode cX5_put 37 = .ok (.lload_n 3, 1) := by decide +kernel
theorem dX5_put_38 : decode cX5_put 38 = .ok (.bipush 8, 2) := by decide +kernel
theorem dX5_put_40 : decode cX5_put 40 = .ok (.lushr, 1) := by decide +kernel
theorem dX5_put_41 : decode cX5_put 41 = .ok (.lstore_n 3, 1) := by decide +kernel
theorem dX5_put_42 : decode cX5_put 42 = .ok (.iinc 5 1, 3) := by decide +kernel
theorem dX5_put_45 : decode cX5_put 45 = .ok (.goto (-40), 3) := by decide +kernel
theorem dX5_put_48 : decode cX5_put 48 = .ok (.iload 5, 2) := by decide +kernel
theorem dX5_put_50 : decode cX5_put 50 = .ok (.ifCond .ne 6, 3) := by decide +kernel
theorem dX5_put_53 : decode cX5_put 53 = .ok (.bipush (-2), 2) := by decide +kernel
theorem dX5_put_55 : decode cX5_put 55 = .ok (.ireturn, 1) := by decide +kernel
theorem dX5_put_56 : decode cX5_put 56 = .ok (.aload_n 0, 1) := by decide +kernel
theorem dX5_put_57 : decode cX5_put 57 = .ok (.getfield 105, 3) := by decide +kernel
theorem dX5_put_60 : decode cX5_put 60 = .ok (.iload 5, 2) := by decide +kernel
theorem dX5_put_62 : decode cX5_put 62 = .ok (.iadd, 1) := by decide +kernel
theorem dX5_put_63 : decode cX5_put 63 = .ok (.bipush 60, 2) := by decide +kernel
theorem dX5_put_65 : decode cX5_put 65 = .ok (.if_icmp .le 6, 3) := by decide +kernel
theorem dX5_put_68 : decode cX5_put 68 = .ok (.bipush (-4), 2) := by decide +kernel
theorem dX5_put_70 : decode cX5_put 70 = .ok (.ireturn, 1) := by decide +kernel
theorem dX5_put_71 : decode cX5_put 71 = .ok (.iload 5, 2) := by decide +kernel
theorem dX5_put_73 : decode cX5_put 73 = .ok (.iconst 1, 1) := by decide +kernel
theorem dX5_put_74 : decode cX5_put 74 = .ok (.isub, 1) := by decide +kernel
theorem dX5_put_75 : decode cX5_put 75 = .ok (.istore 6, 2) := by decide +kernel
theorem dX5_put_77 : decode cX5_put 77 = .ok (.iload 6, 2) := by decide +kernel
theorem dX5_put_79 : decode cX5_put 79 = .ok (.ifCond .lt 40, 3) := by decide +kernel
theorem dX5_put_82 : decode cX5_put 82 = .ok (.aload_n 0, 1) := by decide +kernel
theorem dX5_put_83 : decode cX5_put 83 = .ok (.getfield 23, 3) := by decide +kernel
theorem dX5_put_86 : decode cX5_put 86 = .ok (.aload_n 0, 1) := by decide +kernel
theorem dX5_put_87 : decode cX5_put 87 = .ok (.getfield 105, 3) := by decide +kernel
theorem dX5_put_90 : decode cX5_put 90 = .ok (.lload_n 1, 1) := by decide +kernel
theorem dX5_put_91 : decode cX5_put 91 = .ok (.bipush 8, 2) := by decide +kernel
theorem dX5_put_93 : decode cX5_put 93 = .ok (.iload 6, 2) := by decide +kernel
theorem dX5_put_95 : decode cX5_put 95 = .ok (.imul, 1) := by decide +kernel
theorem dX5_put_96 : decode cX5_put 96 = .ok (.lushr, 1) := by decide +kernel
theorem dX5_put_97 : decode cX5_put 97 = .ok (.ldc2_w 103, 3) := by decide +kernel
theorem dX5_put_100 : decode cX5_put 100 = .ok (.land, 1) := by decide +kernel
theorem dX5_put_101 : decode cX5_put 101 = .ok (.l2i, 1) := by decide +kernel
theorem dX5_put_102 : decode cX5_put 102 = .ok (.iastore, 1) := by decide +kernel
theorem dX5_put_103 : decode cX5_put 103 = .ok (.aload_n 0, 1) := by decide +kernel
theorem dX5_put_104 : decode cX5_put 104 = .ok (.dup, 1) := by decide +kernel
theorem dX5_put_105 : decode cX5_put 105 = .ok (.getfield 105, 3) := by decide +kernel
theorem dX5_put_108 : decode cX5_put 108 = .ok (.iconst 1, 1) := by decide +kernel
theorem dX5_put_109 : decode cX5_put 109 = .ok (.iadd, 1) := by decide +kernel
theorem dX5_put_110 : decode cX5_put 110 = .ok (.putfield 105, 3) := by decide +kernel
theorem dX5_put_113 : decode cX5_put 113 = .ok (.iinc 6 (-1), 3) := by decide +kernel
theorem dX5_put_116 : decode cX5_put 116 = .ok (.goto (-39), 3) := by decide +kernel
theorem dX5_put_119 : decode cX5_put 119 = .ok (.aload_n 0, 1) := by decide +kernel
theorem dX5_put_120 : decode cX5_put 120 = .ok (.getfield 105, 3) := by decide +kernel
theorem dX5_put_123 : decode cX5_put 123 = .ok (.ireturn, 1) := by decide +kernel
theorem dX5_wipe_0 : decode cX5_wipe 0 = .ok (.aload_n 0, 1) := by decide +kernel
theorem dX5_wipe_1 : decode cX5_wipe 1 = .ok (.getfield 105, 3) := by decide +kernel
theorem dX5_wipe_4 : decode cX5_wipe 4 = .ok (.istore_n 1, 1) := by decide +kernel
theorem dX5_wipe_5 : decode cX5_wipe 5 = .ok (.aload_n 0, 1) := by decide +kernel
theorem dX5_wipe_6 : decode cX5_wipe 6 = .ok (.iconst 0, 1) := by decide +kernel
theorem dX5_wipe_7 : decode cX5_wipe 7 = .ok (.putfield 105, 3) := by decide +kernel
theorem dX5_wipe_10 : decode cX5_wipe 10 = .ok (.iload_n 1, 1) := by decide +kernel
theorem dX5_wipe_11 : decode cX5_wipe 11 = .ok (.ireturn, 1) := by decide +kernel
set_option maxRecDepth 20000 in
theorem ggX5_sees_X5_in : GoodIn wsX5_sees wsX5_in := goodIn_r _ [7] (by decide +kernel) (by decide +kernel)
set_option maxRecDepth 20000 in
theorem gX5_sees_X5_in : GoodIn wsX5_sees (va_wsS RX5 30 yX5_in wsX5_in) := goodIn_app (goodIn_of _ (by decide +kernel)) ggX5_sees_X5_in
theorem dX5_sees_0 : decode cX5_sees 0 = .ok (.aload_n 0, 1) := by decide +kernel
theorem dX5_sees_1 : decode cX5_sees 1 = .ok (.getfield 108, 3) := by decide +kernel
theorem dX5_sees_4 : decode cX5_sees 4 = .ok (.aload_n 0, 1) := by decide +kernel
theorem dX5_sees_5 : decode cX5_sees 5 = .ok (.getfield 105, 3) := by decide +kernel
theorem dX5_sees_8 : decode cX5_sees 8 = .ok (.if_icmp .ge 24, 3) := by decide +kernel
theorem dX5_sees_11 : decode cX5_sees 11 = .ok (.aload_n 0, 1) := by decide +kernel
theorem dX5_sees_12 : decode cX5_sees 12 = .ok (.getfield 23, 3) := by decide +kernel
theorem dX5_sees_15 : decode cX5_sees 15 = .ok (.aload_n 0, 1) := by decide +kernel
theorem dX5_sees_16 : decode cX5_sees 16 = .ok (.getfield 108, 3) := by decide +kernel
theorem dX5_sees_19 : decode cX5_sees 19 = .ok (.iaload, 1) := by decide +kernel
theorem dX5_sees_20 : decode cX5_sees 20 = .ok (.iload_n 1, 1) := by decide +kernel
theorem dX5_sees_21 : decode cX5_sees 21 = .ok (.iload_n 2, 1) := by decide +kernel
theorem dX5_sees_22 : decode cX5_sees 22 = .ok (.invokestatic 30, 3) := by decide +kernel
theorem dX5_sees_25 : decode cX5_sees 25 = .ok (.ifCond .eq 7, 3) := by decide +kernel
theorem dX5_sees_28 : decode cX5_sees 28 = .ok (.iconst 1, 1) := by decide +kernel
theorem dX5_sees_29 : decode cX5_sees 29 = .ok (.goto 4, 3) := by decide +kernel
theorem dX5_sees_32 : decode cX5_sees 32 = .ok (.iconst 0, 1) := by decide +kernel
theorem dX5_sees_33 : decode cX5_sees 33 = .ok (.ireturn, 1) := by decide +kernel
set_option maxRecDepth 20000 in
theorem ggX5_takes_X5_sees : GoodIn wsX5_takes wsX5_sees := goodIn_r _ [6, 1, 7, 8, 9, 10, 5, 11, 12, 13, 14, 15, 16, 17, 18, 19, 20, 21, 22, 23] (by decide +kernel) (by decide +kernel)
set_option maxRecDepth 20000 in
theorem gX5_takes_X5_sees : GoodIn wsX5_takes (wsV RX5 111 RX5 yX5_sees wsX5_sees) := goodIn_app (goodIn_of _ (by decide +kernel)) ggX5_takes_X5_sees
theorem dX5_takes_0 : decode cX5_takes 0 = .ok (.aload_n 0, 1) := by decide +kernel
theorem dX5_takes_1 : decode cX5_takes 1 = .ok (.iload_n 1, 1) := by decide +kernel
theorem dX5_takes_2 : decode cX5_takes 2 = .ok (.iload_n 1, 1) := by decide +kernel
theorem dX5_takes_3 : decode cX5_takes 3 = .ok (.invokevirtual 111, 3) := by decide +kernel
theorem dX5_takes_6 : decode cX5_takes 6 = .ok (.istore_n 2, 1) := by decide +kernel
theorem dX5_takes_7 : decode cX5_takes 7 = .ok (.aload_n 0, 1) := by decide +kernel
theorem dX5_takes_8 : decode cX5_takes 8 = .ok (.dup, 1) := by decide +kernel
theorem dX5_takes_9 : decode cX5_takes 9 = .ok (.getfield 108, 3) := by decide +kernel
theorem dX5_takes_12 : decode cX5_takes 12 = .ok (.iload_n 2, 1) := by decide +kernel
theorem dX5_takes_13 : decode cX5_takes 13 = .ok (.ifCond .eq 7, 3) := by decide +kernel
theorem dX5_takes_16 : decode cX5_takes 16 = .ok (.iconst 1, 1) := by decide +kernel
theorem dX5_takes_17 : decode cX5_takes 17 = .ok (.goto 4, 3) := by decide +kernel
theorem dX5_takes_20 : decode cX5_takes 20 = .ok (.iconst 0, 1) := by decide +kernel
theorem dX5_takes_21 : decode cX5_takes 21 = .ok (.iadd, 1) := by decide +kernel
theorem dX5_takes_22 : decode cX5_takes 22 = .ok (.putfield 108, 3) := by decide +kernel
theorem dX5_takes_25 : decode cX5_takes 25 = .ok (.iload_n 2, 1) := by decide +kernel
theorem dX5_takes_26 : decode cX5_takes 26 = .ok (.ireturn, 1) := by decide +kernel
set_option maxRecDepth 20000 in
theorem ggX5_takesOne_X5_sees : GoodIn wsX5_takesOne wsX5_sees := goodIn_r _ [7, 1, 8, 2, 9, 10, 6, 11, 12, 13, 14, 15, 16, 17, 18, 19, 20, 21, 22, 23] (by decide +kernel) (by decide +kernel)
set_option maxRecDepth 20000 in
theorem gX5_takesOne_X5_sees : GoodIn wsX5_takesOne (wsV RX5 111 RX5 yX5_sees wsX5_sees) := goodIn_app (goodIn_of _ (by decide +kernel)) ggX5_takesOne_X5_sees
theorem dX5_takesOne_0 : decode cX5_takesOne 0 = .ok (.aload_n 0, 1) := by decide +kernel
theorem dX5_takesOne_1 : decode cX5_takesOne 1 = .ok (.iload_n 1, 1) := by decide +kernel
theorem dX5_takesOne_2 : decode cX5_takesOne 2 = .ok (.iload_n 2, 1) := by decide +kernel
theorem dX5_takesOne_3 : decode cX5_takesOne 3 = .ok (.invokevirtual 111, 3) := by decide +kernel
theorem dX5_takesOne_6 : decode cX5_takesOne 6 = .ok (.ifCond .ne 6, 3) := by decide +kernel
theorem dX5_takesOne_9 : decode cX5_takesOne 9 = .ok (.bipush (-6), 2) := by decide +kernel
theorem dX5_takesOne_11 : decode cX5_takesOne 11 = .ok (.ireturn, 1) := by decide +kernel
theorem dX5_takesOne_12 : decode cX5_takesOne 12 = .ok (.aload_n 0, 1) := by decide +kernel
theorem dX5_takesOne_13 : decode cX5_takesOne 13 = .ok (.dup, 1) := by decide +kernel
theorem dX5_takesOne_14 : decode cX5_takesOne 14 = .ok (.getfield 108, 3) := by decide +kernel
theorem dX5_takesOne_17 : decode cX5_takesOne 17 = .ok (.iconst 1, 1) := by decide +kernel
theorem dX5_takesOne_18 : decode cX5_takesOne 18 = .ok (.iadd, 1) := by decide +kernel
theorem dX5_takesOne_19 : decode cX5_takesOne 19 = .ok (.putfield 108, 3) := by decide +kernel
theorem dX5_takesOne_22 : decode cX5_takesOne 22 = .ok (.aload_n 0, 1) := by decide +kernel
theorem dX5_takesOne_23 : decode cX5_takesOne 23 = .ok (.getfield 23, 3) := by decide +kernel
theorem dX5_takesOne_26 : decode cX5_takesOne 26 = .ok (.aload_n 0, 1) := by decide +kernel
theorem dX5_takesOne_27 : decode cX5_takesOne 27 = .ok (.getfield 108, 3) := by decide +kernel
theorem dX5_takesOne_30 : decode cX5_takesOne 30 = .ok (.iconst 1, 1) := by decide +kernel
theorem dX5_takesOne_31 : decode cX5_takesOne 31 = .ok (.isub, 1) := by decide +kernel
theorem dX5_takesOne_32 : decode cX5_takesOne 32 = .ok (.iaload, 1) := by decide +kernel
theorem dX5_takesOne_33 : decode cX5_takesOne 33 = .ok (.iload_n 1, 1) := by decide +kernel
theorem dX5_takesOne_34 : decode cX5_takesOne 34 = .ok (.isub, 1) := by decide +kernel
theorem dX5_takesOne_35 : decode cX5_takesOne 35 = .ok (.ireturn, 1) := by decide +kernel
set_option maxRecDepth 20000 in
theorem ggX5_readMinutes_X5_takesOne : GoodIn wsX5_readMinutes wsX5_takesOne := goodIn_r _ [6, 7, 8, 9, 10, 11, 5, 12, 13, 14, 15, 16, 17, 18, 19, 20, 21, 22, 23, 24, 25, 26, 27, 28] (by decide +kernel) (by decide +kernel)
set_option maxRecDepth 20000 in
theorem gX5_readMinutes_X5_takesOne : GoodIn wsX5_readMinutes (wsV RX5 114 RX5 yX5_takesOne wsX5_takesOne) := goodIn_app (goodIn_of _ (by decide +kernel)) ggX5_readMinutes_X5_takesOne
set_option maxRecDepth 20000 in
theorem ggX5_readMinutes_X5_sees : GoodIn wsX5_readMinutes wsX5_sees := goodIn_r _ [12, 7, 13, 8, 14, 15, 5, 16, 17, 18, 19, 20, 21, 22, 23, 24, 25, 26, 27, 28] (by decide +kernel) (by decide +kernel)
set_option maxRecDepth 20000 in
theorem gX5_readMinutes_X5_sees : GoodIn wsX5_readMinutes (wsV RX5 111 RX5 yX5_sees wsX5_sees) := goodIn_app (goodIn_of _ (by decide +kernel)) ggX5_readMinutes_X5_sees
theorem dX5_readMinutes_0 : decode cX5_readMinutes 0 = .ok (.aload_n 0, 1) := by decide +kernel
theorem dX5_readMinutes_1 : decode cX5_readMinutes 1 = .ok (.aload_n 0, 1) := by decide +kernel
theorem dX5_readMinutes_2 : decode cX5_readMinutes 2 = .ok (.bipush 49, 2) := by decide +kernel
theorem dX5_readMinutes_4 : decode cX5_readMinutes 4 = .ok (.bipush 57, 2) := by decide +kernel
theorem dX5_readMinutes_6 : decode cX5_readMinutes 6 = .ok (.invokevirtual 114, 3) := by decide +kernel
theorem dX5_readMinutes_9 : decode cX5_readMinutes 9 = .ok (.iconst 1, 1) := by decide +kernel
theorem dX5_readMinutes_10 : decode cX5_readMinutes 10 = .ok (.iadd, 1) := by decide +kernel
theorem dX5_readMinutes_11 : decode cX5_readMinutes 11 = .ok (.putfield 117, 3) := by decide +kernel
theorem dX5_readMinutes_14 : decode cX5_readMinutes 14 = .ok (.aload_n 0, 1) := by decide +kernel
theorem dX5_readMinutes_15 : decode cX5_readMinutes 15 = .ok (.getfield 117, 3) := by decide +kernel
theorem dX5_readMinutes_18 : decode cX5_readMinutes 18 = .ok (.iconst 1, 1) := by decide +kernel
theorem dX5_readMinutes_19 : decode cX5_readMinutes 19 = .ok (.if_icmp .ge 5, 3) := by decide +kernel
theorem dX5_readMinutes_22 : decode cX5_readMinutes 22 = .ok (.iconst 0, 1) := by decide +kernel
theorem dX5_readMinutes_23 : decode cX5_readMinutes 23 = .ok (.ireturn, 1) := by decide +kernel
theorem dX5_readMinutes_24 : decode cX5_readMinutes 24 = .ok (.aload_n 0, 1) := by decide +kernel
theorem dX5_readMinutes_25 : decode cX5_readMinutes 25 = .ok (.bipush 48, 2) := by decide +kernel
theorem dX5_readMinutes_27 : decode cX5_readMinutes 27 = .ok (.bipush 57, 2) := by decide +kernel
theorem dX5_readMinutes_29 : decode cX5_readMinutes 29 = .ok (.invokevirtual 111, 3) := by decide +kernel
theorem dX5_readMinutes_32 : decode cX5_readMinutes 32 = .ok (.ifCond .eq 23, 3) := by decide +kernel
theorem dX5_readMinutes_35 : decode cX5_readMinutes 35 = .ok (.aload_n 0, 1) := by decide +kernel
theorem dX5_readMinutes_36 : decode cX5_readMinutes 36 = .ok (.bipush 10, 2) := by decide +kernel
theorem dX5_readMinutes_38 : decode cX5_readMinutes 38 = .ok (.aload_n 0, 1) := by decide +kernel
theorem dX5_readMinutes_39 : decode cX5_readMinutes 39 = .ok (.getfield 117, 3) := by decide +kernel
theorem dX5_readMinutes_42 : decode cX5_readMinutes 42 = .ok (.imul, 1) := by decide +kernel
theorem dX5_readMinutes_43 : decode cX5_readMinutes 43 = .ok (.aload_n 0, 1) := by decide +kernel
theorem dX5_readMinutes_44 : decode cX5_readMinutes 44 = .ok (.bipush 48, 2) := by decide +kernel
theorem dX5_readMinutes_46 : decode cX5_readMinutes 46 = .ok (.bipush 57, 2) := by decide +kernel
theorem dX5_readMinutes_48 : decode cX5_readMinutes 48 = .ok (.invokevirtual 114, 3) := by decide +kernel
theorem dX5_readMinutes_51 : decode cX5_readMinutes 51 = .ok (.iadd, 1) := by decide +kernel
theorem dX5_readMinutes_52 : decode cX5_readMinutes 52 = .ok (.putfield 117, 3) := by decide +kernel
theorem dX5_readMinutes_55 : decode cX5_readMinutes 55 = .ok (.iconst 1, 1) := by decide +kernel
theorem dX5_readMinutes_56 : decode cX5_readMinutes 56 = .ok (.ireturn, 1) := by decide +kernel
set_option maxRecDepth 20000 in
theorem ggX5_readOffer_X5_takesOne : GoodIn wsX5_readOffer wsX5_takesOne := goodIn_r _ [8, 9, 10, 11, 12, 13, 7, 14, 15, 16, 17, 18, 28, 29, 30, 31, 32, 33, 34, 35, 36, 37, 38, 39] (by decide +kernel) (by decide +kernel)
set_option maxRecDepth 20000 in
theorem gX5_readOffer_X5_takesOne : GoodIn wsX5_readOffer (wsV RX5 114 RX5 yX5_takesOne wsX5_takesOne) := goodIn_app (goodIn_of _ (by decide +kernel)) ggX5_readOffer_X5_takesOne
set_option maxRecDepth 20000 in
theorem ggX5_readOffer_X5_takes : GoodIn wsX5_readOffer wsX5_takes := goodIn_r _ [22, 9, 11, 12, 13, 7, 14, 15, 10, 16, 17, 18, 28, 29, 30, 31, 32, 33, 34, 35, 36, 37, 38, 39] (by decide +kernel) (by decide +kernel)
set_option maxRecDepth 20000 in
theorem gX5_readOffer_X5_takes : GoodIn wsX5_readOffer (wsV RX5 129 RX5 yX5_takes wsX5_takes) := goodIn_app (goodIn_of _ (by decide +kernel)) ggX5_readOffer_X5_takes
set_option maxRecDepth 20000 in
theorem ggX5_readOffer_X5_readMinutes : GoodIn wsX5_readOffer wsX5_readMinutes := goodIn_r _ [26, 27, 4, 5, 6, 7, 8, 9, 10, 11, 12, 13, 14, 15, 16, 17, 18, 28, 29, 30, 31, 32, 33, 34, 35, 36, 37, 38, 39] (by decide +kernel) (by decide +kernel)
set_option maxRecDepth 20000 in
theorem gX5_readOffer_X5_readMinutes : GoodIn wsX5_readOffer (wsV RX5 132 RX5 yX5_readMinutes wsX5_readMinutes) := goodIn_app (goodIn_of _ (by decide +kernel)) ggX5_readOffer_X5_readMinutes
set_option maxRecDepth 20000 in
theorem ggX5_readOffer_X5_sees : GoodIn wsX5_readOffer wsX5_sees := goodIn_r _ [14, 9, 15, 10, 16, 17, 7, 18, 28, 29, 30, 31, 32, 33, 34, 35, 36, 37, 38, 39] (by decide +kernel) (by decide +kernel)
set_option maxRecDepth 20000 in
theorem gX5_readOffer_X5_sees : GoodIn wsX5_readOffer (wsV RX5 111 RX5 yX5_sees wsX5_sees) := goodIn_app (goodIn_of _ (by decide +kernel)) ggX5_readOffer_X5_sees
theorem dX5_readOffer_0 : decode cX5_readOffer 0 = .ok (.aload_n 0, 1) := by decide +kernel
theorem dX5_readOffer_1 : decode cX5_readOffer 1 = .ok (.aload_n 0, 1) := by decide +kernel
theorem dX5_readOffer_2 : decode cX5_readOffer 2 = .ok (.bipush 48, 2) := by decide +kernel
theorem dX5_readOffer_4 : decode cX5_readOffer 4 = .ok (.bipush 57, 2) := by decide +kernel
theorem dX5_readOffer_6 : decode cX5_readOffer 6 = .ok (.invokevirtual 114, 3) := by decide +kernel
theorem dX5_readOffer_9 : decode cX5_readOffer 9 = .ok (.putfield 120, 3) := by decide +kernel
theorem dX5_readOffer_12 : decode cX5_readOffer 12 = .ok (.aload_n 0, 1) := by decide +kernel
theorem dX5_readOffer_13 : decode cX5_readOffer 13 = .ok (.aload_n 0, 1) := by decide +kernel
theorem dX5_readOffer_14 : decode cX5_readOffer 14 = .ok (.getfield 120, 3) := by decide +kernel
theorem dX5_readOffer_17 : decode cX5_readOffer 17 = .ok (.bipush (-6), 2) := by decide +kernel
theorem dX5_readOffer_19 : decode cX5_readOffer 19 = .ok (.if_icmp .ne 8, 3) := by decide +kernel
theorem dX5_readOffer_22 : decode cX5_readOffer 22 = .ok (.bipush (-6), 2) := by decide +kernel
theorem dX5_readOffer_24 : decode cX5_readOffer 24 = .ok (.goto 11, 3) := by decide +kernel
theorem dX5_readOffer_27 : decode cX5_readOffer 27 = .ok (.aload_n 0, 1) := by decide +kernel
theorem dX5_readOffer_28 : decode cX5_readOffer 28 = .ok (.bipush 97, 2) := by decide +kernel
theorem dX5_readOffer_30 : decode cX5_readOffer 30 = .ok (.bipush 108, 2) := by decide +kernel
theorem dX5_readOffer_32 : decode cX5_readOffer 32 = .ok (.invokevirtual 114, 3) := by decide +kernel
theorem dX5_readOffer_35 : decode cX5_readOffer 35 = .ok (.putfield 123, 3) := by decide +kernel
theorem dX5_readOffer_38 : decode cX5_readOffer 38 = .ok (.aload_n 0, 1) := by decide +kernel
theorem dX5_readOffer_39 : decode cX5_readOffer 39 = .ok (.bipush (-6), 2) := by decide +kernel
theorem dX5_readOffer_41 : decode cX5_readOffer 41 = .ok (.putfield 126, 3) := by decide +kernel
theorem dX5_readOffer_44 : decode cX5_readOffer 44 = .ok (.aload_n 0, 1) := by decide +kernel
theorem dX5_readOffer_45 : decode cX5_readOffer 45 = .ok (.getfield 123, 3) := by decide +kernel
theorem dX5_readOffer_48 : decode cX5_readOffer 48 = .ok (.bipush (-6), 2) := by decide +kernel
theorem dX5_readOffer_50 : decode cX5_readOffer 50 = .ok (.if_icmp .eq 19, 3) := by decide +kernel
theorem dX5_readOffer_53 : decode cX5_readOffer 53 = .ok (.aload_n 0, 1) := by decide +kernel
theorem dX5_readOffer_54 : decode cX5_readOffer 54 = .ok (.bipush 109, 2) := by decide +kernel
theorem dX5_readOffer_56 : decode cX5_readOffer 56 = .ok (.invokevirtual 129, 3) := by decide +kernel
theorem dX5_readOffer_59 : decode cX5_readOffer 59 = .ok (.ifCond .eq 10, 3) := by decide +kernel
theorem dX5_readOffer_62 : decode cX5_readOffer 62 = .ok (.aload_n 0, 1) := by decide +kernel
theorem dX5_readOffer_63 : decode cX5_readOffer 63 = .ok (.invokevirtual 132, 3) := by decide +kernel
theorem dX5_readOffer_66 : decode cX5_readOffer 66 = .ok (.ifCond .ne 5, 3) := by decide +kernel
theorem dX5_readOffer_69 : decode cX5_readOffer 69 = .ok (.iconst 0, 1) := by decide +kernel
theorem dX5_readOffer_70 : decode cX5_readOffer 70 = .ok (.ireturn, 1) := by decide +kernel
theorem dX5_readOffer_71 : decode cX5_readOffer 71 = .ok (.aload_n 0, 1) := by decide +kernel
theorem dX5_readOffer_72 : decode cX5_readOffer 72 = .ok (.bipush 119, 2) := by decide +kernel
theorem dX5_readOffer_74 : decode cX5_readOffer 74 = .ok (.invokevirtual 129, 3) := by decide +kernel
theorem dX5_readOffer_77 : decode cX5_readOffer 77 = .ok (.ifCond .ne 5, 3) := by decide +kernel
theorem dX5_readOffer_80 : decode cX5_readOffer 80 = .ok (.iconst 1, 1) := by decide +kernel
theorem dX5_readOffer_81 : decode cX5_readOffer 81 = .ok (.ireturn, 1) := by decide +kernel
theorem dX5_readOffer_82 : decode cX5_readOffer 82 = .ok (.aload_n 0, 1) := by decide +kernel
theorem dX5_readOffer_83 : decode cX5_readOffer 83 = .ok (.bipush 48, 2) := by decide +kernel
theorem dX5_readOffer_85 : decode cX5_readOffer 85 = .ok (.aload_n 0, 1) := by decide +kernel
theorem dX5_readOffer_86 : decode cX5_readOffer 86 = .ok (.getfield 120, 3) := by decide +kernel
theorem dX5_readOffer_89 : decode cX5_readOffer 89 = .ok (.iadd, 1) := by decide +kernel
theorem dX5_readOffer_90 : decode cX5_readOffer 90 = .ok (.bipush 48, 2) := by decide +kernel
theorem dX5_readOffer_92 : decode cX5_readOffer 92 = .ok (.aload_n 0, 1) := by decide +kernel
theorem dX5_readOffer_93 : decode cX5_readOffer 93 = .ok (.getfield 120, 3) := by decide +kernel
theorem dX5_readOffer_96 : decode cX5_readOffer 96 = .ok (.iadd, 1) := by decide +kernel
theorem dX5_readOffer_97 : decode cX5_readOffer 97 = .ok (.invokevirtual 111, 3) := by decide +kernel
theorem dX5_readOffer_100 : decode cX5_readOffer 100 = .ok (.ifCond .eq 5, 3) := by decide +kernel
theorem dX5_readOffer_103 : decode cX5_readOffer 103 = .ok (.iconst 0, 1) := by decide +kernel
theorem dX5_readOffer_104 : decode cX5_readOffer 104 = .ok (.ireturn, 1) := by decide +kernel
theorem dX5_readOffer_105 : decode cX5_readOffer 105 = .ok (.aload_n 0, 1) := by decide +kernel
theorem dX5_readOffer_106 : decode cX5_readOffer 106 = .ok (.aload_n 0, 1) := by decide +kernel
theorem dX5_readOffer_107 : decode cX5_readOffer 107 = .ok (.bipush 48, 2) := by decide +kernel
theorem dX5_readOffer_109 : decode cX5_readOffer 109 = .ok (.bipush 57, 2) := by decide +kernel
theorem dX5_readOffer_111 : decode cX5_readOffer 111 = .ok (.invokevirtual 114, 3) := by decide +kernel
theorem dX5_readOffer_114 : decode cX5_readOffer 114 = .ok (.putfield 126, 3) := by decide +kernel
theorem dX5_readOffer_117 : decode cX5_readOffer 117 = .ok (.aload_n 0, 1) := by decide +kernel
theorem dX5_readOffer_118 : decode cX5_readOffer 118 = .ok (.getfield 126, 3) := by decide +kernel
theorem dX5_readOffer_121 : decode cX5_readOffer 121 = .ok (.bipush (-6), 2) := by decide +kernel
theorem dX5_readOffer_123 : decode cX5_readOffer 123 = .ok (.if_icmp .eq 7, 3) := by decide +kernel
theorem dX5_readOffer_126 : decode cX5_readOffer 126 = .ok (.iconst 1, 1) := by decide +kernel
theorem dX5_readOffer_127 : decode cX5_readOffer 127 = .ok (.goto 4, 3) := by decide +kernel
theorem dX5_readOffer_130 : decode cX5_readOffer 130 = .ok (.iconst 0, 1) := by decide +kernel
theorem dX5_readOffer_131 : decode cX5_readOffer 131 = .ok (.ireturn, 1) := by decide +kernel
set_option maxRecDepth 20000 in
theorem ggX5_readPad_X5_readOffer : GoodIn wsX5_readPad wsX5_readOffer := goodIn_r _ [11, 3, 2, 4, 12, 13, 14, 10, 15, 1, 16, 17, 18, 19, 20, 6, 21, 22, 23, 24, 25, 26, 27, 28, 29, 30, 31, 5, 93, 94, 95, 96, 97, 98, 99, 100, 101, 102, 103, 104] (by decide +kernel) (by decide +kernel)
set_option maxRecDepth 20000 in
theorem gX5_readPad_X5_readOffer : GoodIn wsX5_readPad (wsV RX5 136 RX5 yX5_readOffer wsX5_readOffer) := goodIn_app (goodIn_of _ (by decide +kernel)) ggX5_readPad_X5_readOffer
set_option maxRecDepth 20000 in
theorem ggX5_readPad_X5_isExcuse : GoodIn wsX5_readPad wsX5_isExcuse := goodIn_r _ [35, 36, 21, 22, 10, 23, 93, 94, 95, 96, 97, 98, 99, 100, 101, 102, 103, 104] (by decide +kernel) (by decide +kernel)
set_option maxRecDepth 20000 in
theorem gX5_readPad_X5_isExcuse : GoodIn wsX5_readPad (wsV RX5 79 RX5 yX5_isExcuse wsX5_isExcuse) := goodIn_app (goodIn_of _ (by decide +kernel)) ggX5_readPad_X5_isExcuse
set_option maxRecDepth 20000 in
theorem ggX5_readPad_X5_offerNow : GoodIn wsX5_readPad wsX5_offerNow := goodIn_r _ [40, 36, 41, 42, 43, 10, 44, 45, 46, 47, 48, 49, 50, 51, 52, 53, 54, 55, 56, 57, 58, 59, 60, 61, 62, 63, 64, 65, 66, 67, 68, 69, 70, 71, 72, 73, 74, 75, 76, 77, 78, 79, 80, 81, 82, 83, 84, 85, 86, 87, 88, 89, 90, 91, 92, 93, 94, 95, 96, 97, 98, 99, 100, 101, 102, 103, 104] (by decide +kernel) (by decide +kernel)
set_option maxRecDepth 20000 in
theorem gX5_readPad_X5_offerNow : GoodIn wsX5_readPad (wsV RX5 100 RX5 yX5_offerNow wsX5_offerNow) := goodIn_app (goodIn_of _ (by decide +kernel)) ggX5_readPad_X5_offerNow
set_option maxRecDepth 20000 in
theorem ggX5_readPad_X5_takes : GoodIn wsX5_readPad wsX5_takes := goodIn_r _ [27, 1, 17, 18, 19, 10, 20, 6, 16, 21, 22, 23, 93, 94, 95, 96, 97, 98, 99, 100, 101, 102, 103, 104] (by decide +kernel) (by decide +kernel)
set_option maxRecDepth 20000 in
theorem gX5_readPad_X5_takes : GoodIn wsX5_readPad (wsV RX5 129 RX5 yX5_takes wsX5_takes) := goodIn_app (goodIn_of _ (by decide +kernel)) ggX5_readPad_X5_takes
theorem dX5_readPad_0 : decode cX5_readPad 0 = .ok (.aload_n 0, 1) := by decide +kernel
theorem dX5_readPad_1 : decode cX5_readPad 1 = .ok (.iconst 0, 1) := by decide +kernel
theorem dX5_readPad_2 : decode cX5_readPad 2 = .ok (.putfield 108, 3) := by decide +kernel
theorem dX5_readPad_5 : decode cX5_readPad 5 = .ok (.iconst 0, 1) := by decide +kernel
theorem dX5_readPad_6 : decode cX5_readPad 6 = .ok (.istore_n 2, 1) := by decide +kernel
theorem dX5_readPad_7 : decode cX5_readPad 7 = .ok (.iconst 1, 1) := by decide +kernel
theorem dX5_readPad_8 : decode cX5_readPad 8 = .ok (.istore_n 3, 1) := by decide +kernel
theorem dX5_readPad_9 : decode cX5_readPad 9 = .ok (.iload_n 3, 1) := by decide +kernel
theorem dX5_readPad_10 : decode cX5_readPad 10 = .ok (.ifCond .eq 69, 3) := by decide +kernel
theorem dX5_readPad_13 : decode cX5_readPad 13 = .ok (.aload_n 0, 1) := by decide +kernel
theorem dX5_readPad_14 : decode cX5_readPad 14 = .ok (.invokevirtual 136, 3) := by decide +kernel
theorem dX5_readPad_17 : decode cX5_readPad 17 = .ok (.ifCond .ne 6, 3) := by decide +kernel
theorem dX5_readPad_20 : decode cX5_readPad 20 = .ok (.bipush (-6), 2) := by decide +kernel
theorem dX5_readPad_22 : decode cX5_readPad 22 = .ok (.ireturn, 1) := by decide +kernel
theorem dX5_readPad_23 : decode cX5_readPad 23 = .ok (.iload_n 2, 1) := by decide +kernel
theorem dX5_readPad_24 : decode cX5_readPad 24 = .ok (.iload_n 1, 1) := by decide +kernel
theorem dX5_readPad_25 : decode cX5_readPad 25 = .ok (.ifCond .eq 41, 3) := by decide +kernel
theorem dX5_readPad_28 : decode cX5_readPad 28 = .ok (.aload_n 0, 1) := by decide +kernel
theorem dX5_readPad_29 : decode cX5_readPad 29 = .ok (.aload_n 0, 1) := by decide +kernel
theorem dX5_readPad_30 : decode cX5_readPad 30 = .ok (.getfield 123, 3) := by decide +kernel
theorem dX5_readPad_33 : decode cX5_readPad 33 = .ok (.invokevirtual 79, 3) := by decide +kernel
theorem dX5_readPad_36 : decode cX5_readPad 36 = .ok (.ifCond .eq 30, 3) := by decide +kernel
theorem dX5_readPad_39 : decode cX5_readPad 39 = .ok (.aload_n 0, 1) := by decide +kernel
theorem dX5_readPad_40 : decode cX5_readPad 40 = .ok (.aload_n 0, 1) := by decide +kernel
theorem dX5_readPad_41 : decode cX5_readPad 41 = .ok (.getfield 120, 3) := by decide +kernel
theorem dX5_readPad_44 : decode cX5_readPad 44 = .ok (.aload_n 0, 1) := by decide +kernel
theorem dX5_readPad_45 : decode cX5_readPad 45 = .ok (.getfield 123, 3) := by decide +kernel
theorem dX5_readPad_48 : decode cX5_readPad 48 = .ok (.aload_n 0, 1) := by decide +kernel
theorem dX5_readPad_49 : decode cX5_readPad 49 = .ok (.getfield 126, 3) := by decide +kernel
theorem dX5_readPad_52 : decode cX5_readPad 52 = .ok (.aload_n 0, 1) := by decide +kernel
theorem dX5_readPad_53 : decode cX5_readPad 53 = .ok (.getfield 117, 3) := by decide +kernel
theorem dX5_readPad_56 : decode cX5_readPad 56 = .ok (.invokevirtual 100, 3) := by decide +kernel
theorem dX5_readPad_59 : decode cX5_readPad 59 = .ok (.ifCond .ne 7, 3) := by decide +kernel
theorem dX5_readPad_62 : decode cX5_readPad 62 = .ok (.iconst 1, 1) := by decide +kernel
theorem dX5_readPad_63 : decode cX5_readPad 63 = .ok (.goto 4, 3) := by decide +kernel
theorem dX5_readPad_66 : decode cX5_readPad 66 = .ok (.iconst 0, 1) := by decide +kernel
theorem dX5_readPad_67 : decode cX5_readPad 67 = .ok (.iadd, 1) := by decide +kernel
theorem dX5_readPad_68 : decode cX5_readPad 68 = .ok (.istore_n 2, 1) := by decide +kernel
theorem dX5_readPad_69 : decode cX5_readPad 69 = .ok (.aload_n 0, 1) := by decide +kernel
theorem dX5_readPad_70 : decode cX5_readPad 70 = .ok (.bipush 44, 2) := by decide +kernel
theorem dX5_readPad_72 : decode cX5_readPad 72 = .ok (.invokevirtual 129, 3) := by decide +kernel
theorem dX5_readPad_75 : decode cX5_readPad 75 = .ok (.istore_n 3, 1) := by decide +kernel
theorem dX5_readPad_76 : decode cX5_readPad 76 = .ok (.goto (-67), 3) := by decide +kernel
theorem dX5_readPad_79 : decode cX5_readPad 79 = .ok (.aload_n 0, 1) := by decide +kernel
theorem dX5_readPad_80 : decode cX5_readPad 80 = .ok (.getfield 108, 3) := by decide +kernel
theorem dX5_readPad_83 : decode cX5_readPad 83 = .ok (.aload_n 0, 1) := by decide +kernel
theorem dX5_readPad_84 : decode cX5_readPad 84 = .ok (.getfield 105, 3) := by decide +kernel
theorem dX5_readPad_87 : decode cX5_readPad 87 = .ok (.if_icmp .ne 7, 3) := by decide +kernel
theorem dX5_readPad_90 : decode cX5_readPad 90 = .ok (.iload_n 2, 1) := by decide +kernel
theorem dX5_readPad_91 : decode cX5_readPad 91 = .ok (.goto 5, 3) := by decide +kernel
theorem dX5_readPad_94 : decode cX5_readPad 94 = .ok (.bipush (-6), 2) := by decide +kernel
theorem dX5_readPad_96 : decode cX5_readPad 96 = .ok (.ireturn, 1) := by decide +kernel
set_option maxRecDepth 20000 in
theorem ggX5_fault_X5_readPad : GoodIn wsX5_fault wsX5_readPad := goodIn_r _ [6, 1, 7, 8, 9, 10, 11, 12, 13, 14, 5, 15, 16, 17, 18, 19, 20, 21, 22, 23, 24, 25, 26, 27, 28, 29, 30, 31, 32, 33, 34, 35, 36, 37, 38, 39, 40, 41, 42, 43, 44, 45, 46, 47, 48, 49, 50, 51, 52, 53, 54, 55, 56, 57, 58, 59, 60, 61, 62, 63, 64, 65, 66, 67, 68, 69, 70, 71, 72, 73, 74, 75, 76, 77, 78, 79, 80, 81, 82, 83, 84, 85, 86, 87, 88, 89, 90, 91, 92, 93, 94, 95, 96, 97, 98, 99, 100, 101, 102, 103, 104, 105, 106, 107, 108] (by decide +kernel) (by decide +kernel)
set_option maxRecDepth 20000 in
theorem gX5_fault_X5_readPad : GoodIn wsX5_fault (wsV RX5 139 RX5 yX5_readPad wsX5_readPad) := goodIn_app (goodIn_of _ (by decide +kernel)) ggX5_fault_X5_readPad
theorem dX5_fault_0 : decode cX5_fault 0 = .ok (.aload_n 0, 1) := by decide +kernel
theorem dX5_fault_1 : decode cX5_fault 1 = .ok (.iconst 0, 1) := by decide +kernel
theorem dX5_fault_2 : decode cX5_fault 2 = .ok (.invokevirtual 139, 3) := by decide +kernel
theorem dX5_fault_5 : decode cX5_fault 5 = .ok (.bipush (-6), 2) := by decide +kernel
theorem dX5_fault_7 : decode cX5_fault 7 = .ok (.if_icmp .ne 10, 3) := by decide +kernel
theorem dX5_fault_10 : decode cX5_fault 10 = .ok (.aload_n 0, 1) := by decide +kernel
theorem dX5_fault_11 : decode cX5_fault 11 = .ok (.getfield 108, 3) := by decide +kernel
theorem dX5_fault_14 : decode cX5_fault 14 = .ok (.goto 5, 3) := by decide +kernel
theorem dX5_fault_17 : decode cX5_fault 17 = .ok (.bipush (-6), 2) := by decide +kernel
theorem dX5_fault_19 : decode cX5_fault 19 = .ok (.ireturn, 1) := by decide +kernel
set_option maxRecDepth 20000 in
theorem ggX5_read_X5_readPad : GoodIn wsX5_read wsX5_readPad := goodIn_r _ [6, 7, 8, 9, 10, 11, 1, 12, 13, 14, 5, 15, 16, 17, 18, 19, 20, 21, 22, 23, 24, 25, 26, 27, 28, 29, 30, 31, 32, 33, 34, 35, 36, 37, 38, 39, 40, 41, 42, 43, 44, 45, 46, 47, 48, 49, 50, 51, 52, 53, 54, 55, 56, 57, 58, 59, 60, 61, 62, 63, 64, 65, 66, 67, 68, 69, 70, 71, 72, 73, 74, 75, 76, 77, 78, 79, 80, 81, 82, 83, 84, 85, 86, 87, 88, 89, 90, 91, 92, 93, 94, 95, 96, 106, 107, 108, 109, 110, 111, 112, 113, 114, 115, 116, 117] (by decide +kernel) (by decide +kernel)
set_option maxRecDepth 20000 in
theorem gX5_read_X5_readPad : GoodIn wsX5_read (wsV RX5 139 RX5 yX5_readPad wsX5_readPad) := goodIn_app (goodIn_of _ (by decide +kernel)) ggX5_read_X5_readPad
set_option maxRecDepth 20000 in
theorem ggX5_read_X5_record : GoodIn wsX5_read wsX5_record := goodIn_r _ [100, 101, 102, 40, 103, 104, 5, 105, 106, 107, 108, 109, 110, 111, 112, 113, 114, 115, 116, 117] (by decide +kernel) (by decide +kernel)
set_option maxRecDepth 20000 in
theorem gX5_read_X5_record : GoodIn wsX5_read (wsV RX5 42 RX5 yX5_record wsX5_record) := goodIn_app (goodIn_of _ (by decide +kernel)) ggX5_read_X5_record
theorem dX5_read_0 : decode cX5_read 0 = .ok (.aload_n 0, 1) := by decide +kernel
theorem dX5_read_1 : decode cX5_read 1 = .ok (.iconst 0, 1) := by decide +kernel
theorem dX5_read_2 : decode cX5_read 2 = .ok (.invokevirtual 139, 3) := by decide +kernel
theorem dX5_read_5 : decode cX5_read 5 = .ok (.bipush (-6), 2) := by decide +kernel
theorem dX5_read_7 : decode cX5_read 7 = .ok (.if_icmp .ne 6, 3) := by decide +kernel
theorem dX5_read_10 : decode cX5_read 10 = .ok (.bipush (-3), 2) := by decide +kernel
theorem dX5_read_12 : decode cX5_read 12 = .ok (.ireturn, 1) := by decide +kernel
theorem dX5_read_13 : decode cX5_read 13 = .ok (.aload_n 0, 1) := by decide +kernel
theorem dX5_read_14 : decode cX5_read 14 = .ok (.invokevirtual 42, 3) := by decide +kernel
theorem dX5_read_17 : decode cX5_read 17 = .ok (.aload_n 0, 1) := by decide +kernel
theorem dX5_read_18 : decode cX5_read 18 = .ok (.iconst 1, 1) := by decide +kernel
theorem dX5_read_19 : decode cX5_read 19 = .ok (.invokevirtual 139, 3) := by decide +kernel
theorem dX5_read_22 : decode cX5_read 22 = .ok (.istore_n 1, 1) := by decide +kernel
theorem dX5_read_23 : decode cX5_read 23 = .ok (.aload_n 0, 1) := by decide +kernel
theorem dX5_read_24 : decode cX5_read 24 = .ok (.iconst 0, 1) := by decide +kernel
theorem dX5_read_25 : decode cX5_read 25 = .ok (.putfield 105, 3) := by decide +kernel
theorem dX5_read_28 : decode cX5_read 28 = .ok (.iload_n 1, 1) := by decide +kernel
theorem dX5_read_29 : decode cX5_read 29 = .ok (.ireturn, 1) := by decide +kernel
set_option maxRecDepth 20000 in
theorem ggX5_users_X5_uses : GoodIn wsX5_users wsX5_uses := goodIn_r _ [5, 6, 7, 8, 9, 10, 11, 12, 13, 14, 15, 16, 17, 18] (by decide +kernel) (by decide +kernel)
set_option maxRecDepth 20000 in
theorem gX5_users_X5_uses : GoodIn wsX5_users (wsV RX5 45 RX5 yX5_uses wsX5_uses) := goodIn_app (goodIn_of _ (by decide +kernel)) ggX5_users_X5_uses
theorem dX5_users_0 : decode cX5_users 0 = .ok (.iconst 0, 1) := by decide +kernel
theorem dX5_users_1 : decode cX5_users 1 = .ok (.istore_n 2, 1) := by decide +kernel
theorem dX5_users_2 : decode cX5_users 2 = .ok (.iconst 0, 1) := by decide +kernel
theorem dX5_users_3 : decode cX5_users 3 = .ok (.istore_n 3, 1) := by decide +kernel
theorem dX5_users_4 : decode cX5_users 4 = .ok (.iload_n 3, 1) := by decide +kernel
theorem dX5_users_5 : decode cX5_users 5 = .ok (.bipush 10, 2) := by decide +kernel
theorem dX5_users_7 : decode cX5_users 7 = .ok (.if_icmp .ge 28, 3) := by decide +kernel
theorem dX5_users_10 : decode cX5_users 10 = .ok (.iload_n 2, 1) := by decide +kernel
theorem dX5_users_11 : decode cX5_users 11 = .ok (.aload_n 0, 1) := by decide +kernel
theorem dX5_users_12 : decode cX5_users 12 = .ok (.iload_n 3, 1) := by decide +kernel
theorem dX5_users_13 : decode cX5_users 13 = .ok (.iload_n 1, 1) := by decide +kernel
theorem dX5_users_14 : decode cX5_users 14 = .ok (.invokevirtual 45, 3) := by decide +kernel
theorem dX5_users_17 : decode cX5_users 17 = .ok (.ifCond .le 9, 3) := by decide +kernel
theorem dX5_users_20 : decode cX5_users 20 = .ok (.iconst 1, 1) := by decide +kernel
theorem dX5_users_21 : decode cX5_users 21 = .ok (.iload_n 3, 1) := by decide +kernel
theorem dX5_users_22 : decode cX5_users 22 = .ok (.ishl, 1) := by decide +kernel
theorem dX5_users_23 : decode cX5_users 23 = .ok (.goto 4, 3) := by decide +kernel
theorem dX5_users_26 : decode cX5_users 26 = .ok (.iconst 0, 1) := by decide +kernel
theorem dX5_users_27 : decode cX5_users 27 = .ok (.ior, 1) := by decide +kernel
theorem dX5_users_28 : decode cX5_users 28 = .ok (.istore_n 2, 1) := by decide +kernel
theorem dX5_users_29 : decode cX5_users 29 = .ok (.iinc 3 1, 3) := by decide +kernel
theorem dX5_users_32 : decode cX5_users 32 = .ok (.goto (-28), 3) := by decide +kernel
theorem dX5_users_35 : decode cX5_users 35 = .ok (.iload_n 2, 1) := by decide +kernel
theorem dX5_users_36 : decode cX5_users 36 = .ok (.ireturn, 1) := by decide +kernel
set_option maxRecDepth 20000 in
theorem ggX5_excuse_X5_isExcuse : GoodIn wsX5_excuse wsX5_isExcuse := goodIn_r _ [5, 6, 7, 8, 4, 9, 26, 27, 28, 29, 30, 31, 32, 33, 34, 35, 36, 37] (by decide +kernel) (by decide +kernel)
set_option maxRecDepth 20000 in
theorem gX5_excuse_X5_isExcuse : GoodIn wsX5_excuse (wsV RX5 79 RX5 yX5_isExcuse wsX5_isExcuse) := goodIn_app (goodIn_of _ (by decide +kernel)) ggX5_excuse_X5_isExcuse
set_option maxRecDepth 20000 in
theorem ggX5_excuse_X5_ofExcuse : GoodIn wsX5_excuse wsX5_ofExcuse := goodIn_r _ [13, 6, 26, 27, 28, 29, 30, 31, 32, 33, 34, 35, 36, 37] (by decide +kernel) (by decide +kernel)
set_option maxRecDepth 20000 in
theorem gX5_excuse_X5_ofExcuse : GoodIn wsX5_excuse (wsV RX5 59 RX5 yX5_ofExcuse wsX5_ofExcuse) := goodIn_app (goodIn_of _ (by decide +kernel)) ggX5_excuse_X5_ofExcuse
set_option maxRecDepth 20000 in
theorem ggX5_excuse_X5_usesBySchool : GoodIn wsX5_excuse wsX5_usesBySchool := goodIn_r _ [17, 18, 19, 20, 4, 21, 6, 26, 27, 28, 29, 30, 31, 32, 33, 34, 35, 36, 37] (by decide +kernel) (by decide +kernel)
set_option maxRecDepth 20000 in
theorem gX5_excuse_X5_usesBySchool : GoodIn wsX5_excuse (wsV RX5 49 RX5 yX5_usesBySchool wsX5_usesBySchool) := goodIn_app (goodIn_of _ (by decide +kernel)) ggX5_excuse_X5_usesBySchool
set_option maxRecDepth 20000 in
theorem ggX5_excuse_X5_users : GoodIn wsX5_excuse wsX5_users := goodIn_r _ [25, 18, 19, 20, 4, 21, 6, 26, 27, 28, 29, 30, 31, 32, 33, 34, 35, 36, 37] (by decide +kernel) (by decide +kernel)
set_option maxRecDepth 20000 in
theorem gX5_excuse_X5_users : GoodIn wsX5_excuse (wsV RX5 143 RX5 yX5_users wsX5_users) := goodIn_app (goodIn_of _ (by decide +kernel)) ggX5_excuse_X5_users
theorem dX5_excuse_0 : decode cX5_excuse 0 = .ok (.aload_n 0, 1) := by decide +kernel
theorem dX5_excuse_1 : decode cX5_excuse 1 = .ok (.iload_n 1, 1) := by decide +kernel
theorem dX5_excuse_2 : decode cX5_excuse 2 = .ok (.invokevirtual 79, 3) := by decide +kernel
theorem dX5_excuse_5 : decode cX5_excuse 5 = .ok (.ifCond .ne 5, 3) := by decide +kernel
theorem dX5_excuse_8 : decode cX5_excuse 8 = .ok (.iconst (-1), 1) := by decide +kernel
theorem dX5_excuse_9 : decode cX5_excuse 9 = .ok (.ireturn, 1) := by decide +kernel
theorem dX5_excuse_10 : decode cX5_excuse 10 = .ok (.iload_n 2, 1) := by decide +kernel
theorem dX5_excuse_11 : decode cX5_excuse 11 = .ok (.tableswitch 59 0 4 #[33, 33, 40, 46, 53], 33) := by decide +kernel
theorem dX5_excuse_44 : decode cX5_excuse 44 = .ok (.aload_n 0, 1) := by decide +kernel
theorem dX5_excuse_45 : decode cX5_excuse 45 = .ok (.iload_n 1, 1) := by decide +kernel
theorem dX5_excuse_46 : decode cX5_excuse 46 = .ok (.iload_n 2, 1) := by decide +kernel
theorem dX5_excuse_47 : decode cX5_excuse 47 = .ok (.invokevirtual 59, 3) := by decide +kernel
theorem dX5_excuse_50 : decode cX5_excuse 50 = .ok (.ireturn, 1) := by decide +kernel
theorem dX5_excuse_51 : decode cX5_excuse 51 = .ok (.aload_n 0, 1) := by decide +kernel
theorem dX5_excuse_52 : decode cX5_excuse 52 = .ok (.iload_n 1, 1) := by decide +kernel
theorem dX5_excuse_53 : decode cX5_excuse 53 = .ok (.invokevirtual 49, 3) := by decide +kernel
theorem dX5_excuse_56 : decode cX5_excuse 56 = .ok (.ireturn, 1) := by decide +kernel
theorem dX5_excuse_57 : decode cX5_excuse 57 = .ok (.aload_n 0, 1) := by decide +kernel
theorem dX5_excuse_58 : decode cX5_excuse 58 = .ok (.iload_n 1, 1) := by decide +kernel
theorem dX5_excuse_59 : decode cX5_excuse 59 = .ok (.iconst 2, 1) := by decide +kernel
theorem dX5_excuse_60 : decode cX5_excuse 60 = .ok (.invokevirtual 59, 3) := by decide +kernel
theorem dX5_excuse_63 : decode cX5_excuse 63 = .ok (.ireturn, 1) := by decide +kernel
theorem dX5_excuse_64 : decode cX5_excuse 64 = .ok (.aload_n 0, 1) := by decide +kernel
theorem dX5_excuse_65 : decode cX5_excuse 65 = .ok (.iload_n 1, 1) := by decide +kernel
theorem dX5_excuse_66 : decode cX5_excuse 66 = .ok (.invokevirtual 143, 3) := by decide +kernel
theorem dX5_excuse_69 : decode cX5_excuse 69 = .ok (.ireturn, 1) := by decide +kernel
theorem dX5_excuse_70 : decode cX5_excuse 70 = .ok (.bipush (-2), 2) := by decide +kernel
theorem dX5_excuse_72 : decode cX5_excuse 72 = .ok (.ireturn, 1) := by decide +kernel
set_option maxRecDepth 20000 in
theorem ggX5_usesBy_X5_uses : GoodIn wsX5_usesBy wsX5_uses := goodIn_r _ [6, 1, 7, 8, 9, 10, 11, 12, 13, 14, 15, 16, 17, 18] (by decide +kernel) (by decide +kernel)
set_option maxRecDepth 20000 in
theorem gX5_usesBy_X5_uses : GoodIn wsX5_usesBy (wsV RX5 45 RX5 yX5_uses wsX5_uses) := goodIn_app (goodIn_of _ (by decide +kernel)) ggX5_usesBy_X5_uses
theorem dX5_usesBy_0 : decode cX5_usesBy 0 = .ok (.iconst 0, 1) := by decide +kernel
theorem dX5_usesBy_1 : decode cX5_usesBy 1 = .ok (.istore_n 2, 1) := by decide +kernel
theorem dX5_usesBy_2 : decode cX5_usesBy 2 = .ok (.iconst 0, 1) := by decide +kernel
theorem dX5_usesBy_3 : decode cX5_usesBy 3 = .ok (.istore_n 3, 1) := by decide +kernel
theorem dX5_usesBy_4 : decode cX5_usesBy 4 = .ok (.iload_n 3, 1) := by decide +kernel
theorem dX5_usesBy_5 : decode cX5_usesBy 5 = .ok (.aload_n 0, 1) := by decide +kernel
theorem dX5_usesBy_6 : decode cX5_usesBy 6 = .ok (.getfield 7, 3) := by decide +kernel
theorem dX5_usesBy_9 : decode cX5_usesBy 9 = .ok (.iconst 5, 1) := by decide +kernel
theorem dX5_usesBy_10 : decode cX5_usesBy 10 = .ok (.iaload, 1) := by decide +kernel
theorem dX5_usesBy_11 : decode cX5_usesBy 11 = .ok (.if_icmp .ge 18, 3) := by decide +kernel
theorem dX5_usesBy_14 : decode cX5_usesBy 14 = .ok (.iload_n 2, 1) := by decide +kernel
theorem dX5_usesBy_15 : decode cX5_usesBy 15 = .ok (.aload_n 0, 1) := by decide +kernel
theorem dX5_usesBy_16 : decode cX5_usesBy 16 = .ok (.iload_n 1, 1) := by decide +kernel
theorem dX5_usesBy_17 : decode cX5_usesBy 17 = .ok (.iload_n 3, 1) := by decide +kernel
theorem dX5_usesBy_18 : decode cX5_usesBy 18 = .ok (.invokevirtual 45, 3) := by decide +kernel
theorem dX5_usesBy_21 : decode cX5_usesBy 21 = .ok (.iadd, 1) := by decide +kernel
theorem dX5_usesBy_22 : decode cX5_usesBy 22 = .ok (.istore_n 2, 1) := by decide +kernel
theorem dX5_usesBy_23 : decode cX5_usesBy 23 = .ok (.iinc 3 1, 3) := by decide +kernel
theorem dX5_usesBy_26 : decode cX5_usesBy 26 = .ok (.goto (-22), 3) := by decide +kernel
theorem dX5_usesBy_29 : decode cX5_usesBy 29 = .ok (.iload_n 2, 1) := by decide +kernel
theorem dX5_usesBy_30 : decode cX5_usesBy 30 = .ok (.ireturn, 1) := by decide +kernel
set_option maxRecDepth 20000 in
theorem ggX5_pupil_X5_isPupil : GoodIn wsX5_pupil wsX5_isPupil := goodIn_r _ [4, 5, 6, 3, 7] (by decide +kernel) (by decide +kernel)
set_option maxRecDepth 20000 in
theorem gX5_pupil_X5_isPupil : GoodIn wsX5_pupil (va_wsS RX5 83 yX5_isPupil wsX5_isPupil) := goodIn_app (goodIn_of _ (by decide +kernel)) ggX5_pupil_X5_isPupil
set_option maxRecDepth 20000 in
theorem ggX5_pupil_X5_of : GoodIn wsX5_pupil wsX5_of := goodIn_r _ [11, 12, 25, 26, 27, 28, 29, 30, 31, 32, 33, 34, 35, 36] (by decide +kernel) (by decide +kernel)
set_option maxRecDepth 20000 in
theorem gX5_pupil_X5_of : GoodIn wsX5_pupil (wsV RX5 56 RX5 yX5_of wsX5_of) := goodIn_app (goodIn_of _ (by decide +kernel)) ggX5_pupil_X5_of
set_option maxRecDepth 20000 in
theorem ggX5_pupil_X5_usesBy : GoodIn wsX5_pupil wsX5_usesBy := goodIn_r _ [16, 12, 17, 18, 19, 3, 20, 25, 26, 27, 28, 29, 30, 31, 32, 33, 34, 35, 36] (by decide +kernel) (by decide +kernel)
set_option maxRecDepth 20000 in
theorem gX5_pupil_X5_usesBy : GoodIn wsX5_pupil (wsV RX5 146 RX5 yX5_usesBy wsX5_usesBy) := goodIn_app (goodIn_of _ (by decide +kernel)) ggX5_pupil_X5_usesBy
set_option maxRecDepth 20000 in
theorem ggX5_pupil_X5_grudge : GoodIn wsX5_pupil wsX5_grudge := goodIn_r _ [24, 12, 25, 26, 27, 28, 29, 30, 31, 32, 33, 34, 35, 36] (by decide +kernel) (by decide +kernel)
set_option maxRecDepth 20000 in
theorem gX5_pupil_X5_grudge : GoodIn wsX5_pupil (wsV RX5 65 RX5 yX5_grudge wsX5_grudge) := goodIn_app (goodIn_of _ (by decide +kernel)) ggX5_pupil_X5_grudge
theorem dX5_pupil_0 : decode cX5_pupil 0 = .ok (.iload_n 1, 1) := by decide +kernel
theorem dX5_pupil_1 : decode cX5_pupil 1 = .ok (.invokestatic 83, 3) := by decide +kernel
theorem dX5_pupil_4 : decode cX5_pupil 4 = .ok (.ifCond .ne 5, 3) := by decide +kernel
theorem dX5_pupil_7 : decode cX5_pupil 7 = .ok (.iconst (-1), 1) := by decide +kernel
theorem dX5_pupil_8 : decode cX5_pupil 8 = .ok (.ireturn, 1) := by decide +kernel
theorem dX5_pupil_9 : decode cX5_pupil 9 = .ok (.iload_n 2, 1) := by decide +kernel
theorem dX5_pupil_10 : decode cX5_pupil 10 = .ok (.tableswitch 72 0 7 #[46, 46, 46, 46, 46, 53, 59, 65], 46) := by decide +kernel
theorem dX5_pupil_56 : decode cX5_pupil 56 = .ok (.aload_n 0, 1) := by decide +kernel
theorem dX5_pupil_57 : decode cX5_pupil 57 = .ok (.iload_n 1, 1) := by decide +kernel
theorem dX5_pupil_58 : decode cX5_pupil 58 = .ok (.iload_n 2, 1) := by decide +kernel
theorem dX5_pupil_59 : decode cX5_pupil 59 = .ok (.invokevirtual 56, 3) := by decide +kernel
theorem dX5_pupil_62 : decode cX5_pupil 62 = .ok (.ireturn, 1) := by decide +kernel
theorem dX5_pupil_63 : decode cX5_pupil 63 = .ok (.aload_n 0, 1) := by decide +kernel
theorem dX5_pupil_64 : decode cX5_pupil 64 = .ok (.iload_n 1, 1) := by decide +kernel
theorem dX5_pupil_65 : decode cX5_pupil 65 = .ok (.invokevirtual 146, 3) := by decide +kernel
theorem dX5_pupil_68 : decode cX5_pupil 68 = .ok (.ireturn, 1) := by decide +kernel
theorem dX5_pupil_69 : decode cX5_pupil 69 = .ok (.aload_n 0, 1) := by decide +kernel
theorem dX5_pupil_70 : decode cX5_pupil 70 = .ok (.iload_n 1, 1) := by decide +kernel
theorem dX5_pupil_71 : decode cX5_pupil 71 = .ok (.invokevirtual 65, 3) := by decide +kernel
theorem dX5_pupil_74 : decode cX5_pupil 74 = .ok (.ireturn, 1) := by decide +kernel
theorem dX5_pupil_75 : decode cX5_pupil 75 = .ok (.aload_n 0, 1) := by decide +kernel
theorem dX5_pupil_76 : decode cX5_pupil 76 = .ok (.iload_n 1, 1) := by decide +kernel
theorem dX5_pupil_77 : decode cX5_pupil 77 = .ok (.iconst 5, 1) := by decide +kernel
theorem dX5_pupil_78 : decode cX5_pupil 78 = .ok (.invokevirtual 56, 3) := by decide +kernel
theorem dX5_pupil_81 : decode cX5_pupil 81 = .ok (.ireturn, 1) := by decide +kernel
theorem dX5_pupil_82 : decode cX5_pupil 82 = .ok (.bipush (-2), 2) := by decide +kernel
theorem dX5_pupil_84 : decode cX5_pupil 84 = .ok (.ireturn, 1) := by decide +kernel
set_option maxRecDepth 20000 in
theorem ggX5_novelty_X5_isPupil : GoodIn wsX5_novelty wsX5_isPupil := goodIn_r _ [4, 5, 6, 3, 7] (by decide +kernel) (by decide +kernel)
set_option maxRecDepth 20000 in
theorem gX5_novelty_X5_isPupil : GoodIn wsX5_novelty (va_wsS RX5 83 yX5_isPupil wsX5_isPupil) := goodIn_app (goodIn_of _ (by decide +kernel)) ggX5_novelty_X5_isPupil
set_option maxRecDepth 20000 in
theorem ggX5_novelty_X5_isExcuse : GoodIn wsX5_novelty wsX5_isExcuse := goodIn_r _ [11, 12, 5, 6, 3, 7, 29, 30, 31, 32, 33, 34, 35, 36, 37, 38, 39, 40] (by decide +kernel) (by decide +kernel)
set_option maxRecDepth 20000 in
theorem gX5_novelty_X5_isExcuse : GoodIn wsX5_novelty (wsV RX5 79 RX5 yX5_isExcuse wsX5_isExcuse) := goodIn_app (goodIn_of _ (by decide +kernel)) ggX5_novelty_X5_isExcuse
set_option maxRecDepth 20000 in
theorem ggX5_novelty_X5_noveltyOf : GoodIn wsX5_novelty wsX5_noveltyOf := goodIn_r _ [16, 12, 17, 18, 19, 3, 20, 21, 22, 23, 24, 25, 26, 27, 28, 29, 30, 31, 32, 33, 34, 35, 36, 37, 38, 39, 40] (by decide +kernel) (by decide +kernel)
set_option maxRecDepth 20000 in
theorem gX5_novelty_X5_noveltyOf : GoodIn wsX5_novelty (wsV RX5 62 RX5 yX5_noveltyOf wsX5_noveltyOf) := goodIn_app (goodIn_of _ (by decide +kernel)) ggX5_novelty_X5_noveltyOf
theorem dX5_novelty_0 : decode cX5_novelty 0 = .ok (.iload_n 1, 1) := by decide +kernel
theorem dX5_novelty_1 : decode cX5_novelty 1 = .ok (.invokestatic 83, 3) := by decide +kernel
theorem dX5_novelty_4 : decode cX5_novelty 4 = .ok (.ifCond .eq 20, 3) := by decide +kernel
theorem dX5_novelty_7 : decode cX5_novelty 7 = .ok (.aload_n 0, 1) := by decide +kernel
theorem dX5_novelty_8 : decode cX5_novelty 8 = .ok (.iload_n 2, 1) := by decide +kernel
theorem dX5_novelty_9 : decode cX5_novelty 9 = .ok (.invokevirtual 79, 3) := by decide +kernel
theorem dX5_novelty_12 : decode cX5_novelty 12 = .ok (.ifCond .eq 12, 3) := by decide +kernel
theorem dX5_novelty_15 : decode cX5_novelty 15 = .ok (.aload_n 0, 1) := by decide +kernel
theorem dX5_novelty_16 : decode cX5_novelty 16 = .ok (.iload_n 1, 1) := by decide +kernel
theorem dX5_novelty_17 : decode cX5_novelty 17 = .ok (.iload_n 2, 1) := by decide +kernel
theorem dX5_novelty_18 : decode cX5_novelty 18 = .ok (.invokevirtual 62, 3) := by decide +kernel
theorem dX5_novelty_21 : decode cX5_novelty 21 = .ok (.goto 4, 3) := by decide +kernel
theorem dX5_novelty_24 : decode cX5_novelty 24 = .ok (.iconst (-1), 1) := by decide +kernel
theorem dX5_novelty_25 : decode cX5_novelty 25 = .ok (.ireturn, 1) := by decide +kernel
set_option maxRecDepth 20000 in
theorem ggX5_why_X5_whyNotOffer : GoodIn wsX5_why wsX5_whyNotOffer := goodIn_r _ [5, 6, 7, 4, 8, 9, 10, 11, 12, 13, 14, 15, 16, 57, 58, 59, 60, 61, 62, 63, 64, 65, 66, 67, 68] (by decide +kernel) (by decide +kernel)
set_option maxRecDepth 20000 in
theorem gX5_why_X5_whyNotOffer : GoodIn wsX5_why (wsV RX5 97 RX5 yX5_whyNotOffer wsX5_whyNotOffer) := goodIn_app (goodIn_of _ (by decide +kernel)) ggX5_why_X5_whyNotOffer
set_option maxRecDepth 20000 in
theorem ggX5_why_X5_reason : GoodIn wsX5_why wsX5_reason := goodIn_r _ [20, 16, 21, 22, 23, 4, 24, 25, 26, 27, 28, 29, 30, 31, 32, 33, 34, 35, 36, 37, 38, 39, 40, 41, 42, 43, 44, 45, 46, 47, 48, 49, 50, 51, 52, 53, 54, 55, 56, 57, 58, 59, 60, 61, 62, 63, 64, 65, 66, 67, 68] (by decide +kernel) (by decide +kernel)
set_option maxRecDepth 20000 in
theorem gX5_why_X5_reason : GoodIn wsX5_why (wsV RX5 86 RX5 yX5_reason wsX5_reason) := goodIn_app (goodIn_of _ (by decide +kernel)) ggX5_why_X5_reason
theorem dX5_why_0 : decode cX5_why 0 = .ok (.aload_n 0, 1) := by decide +kernel
theorem dX5_why_1 : decode cX5_why 1 = .ok (.iload_n 1, 1) := by decide +kernel
theorem dX5_why_2 : decode cX5_why 2 = .ok (.iload_n 2, 1) := by decide +kernel
theorem dX5_why_3 : decode cX5_why 3 = .ok (.iload_n 3, 1) := by decide +kernel
theorem dX5_why_4 : decode cX5_why 4 = .ok (.iload 4, 2) := by decide +kernel
theorem dX5_why_6 : decode cX5_why 6 = .ok (.invokevirtual 97, 3) := by decide +kernel
theorem dX5_why_9 : decode cX5_why 9 = .ok (.istore 5, 2) := by decide +kernel
theorem dX5_why_11 : decode cX5_why 11 = .ok (.iload 5, 2) := by decide +kernel
theorem dX5_why_13 : decode cX5_why 13 = .ok (.ifCond .ge 8, 3) := by decide +kernel
theorem dX5_why_16 : decode cX5_why 16 = .ok (.iload 5, 2) := by decide +kernel
theorem dX5_why_18 : decode cX5_why 18 = .ok (.goto 12, 3) := by decide +kernel
theorem dX5_why_21 : decode cX5_why 21 = .ok (.aload_n 0, 1) := by decide +kernel
theorem dX5_why_22 : decode cX5_why 22 = .ok (.iload_n 1, 1) := by decide +kernel
theorem dX5_why_23 : decode cX5_why 23 = .ok (.iload_n 2, 1) := by decide +kernel
theorem dX5_why_24 : decode cX5_why 24 = .ok (.iload_n 3, 1) := by decide +kernel
theorem dX5_why_25 : decode cX5_why 25 = .ok (.iload 4, 2) := by decide +kernel
theorem dX5_why_27 : decode cX5_why 27 = .ok (.invokevirtual 86, 3) := by decide +kernel
theorem dX5_why_30 : decode cX5_why 30 = .ok (.ireturn, 1) := by decide +kernel
set_option maxRecDepth 20000 in
theorem ggX5_weight_X5_whyNotOffer : GoodIn wsX5_weight wsX5_whyNotOffer := goodIn_r _ [5, 6, 7, 4, 8, 9, 10, 11, 12, 13, 14, 15, 16, 53, 54, 55, 56, 57, 58, 59, 60, 61, 62, 63, 64] (by decide +kernel) (by decide +kernel)
set_option maxRecDepth 20000 in
theorem gX5_weight_X5_whyNotOffer : GoodIn wsX5_weight (wsV RX5 97 RX5 yX5_whyNotOffer wsX5_whyNotOffer) := goodIn_app (goodIn_of _ (by decide +kernel)) ggX5_weight_X5_whyNotOffer
set_option maxRecDepth 20000 in
theorem ggX5_weight_X5_weightOf : GoodIn wsX5_weight wsX5_weightOf := goodIn_r _ [20, 16, 21, 22, 23, 4, 24, 25, 26, 27, 28, 29, 30, 31, 32, 33, 34, 35, 36, 37, 38, 39, 40, 41, 42, 43, 44, 45, 46, 47, 48, 49, 50, 51, 52, 53, 54, 55, 56, 57, 58, 59, 60, 61, 62, 63, 64] (by decide +kernel) (by decide +kernel)
set_option maxRecDepth 20000 in
theorem gX5_weight_X5_weightOf : GoodIn wsX5_weight (wsV RX5 71 RX5 yX5_weightOf wsX5_weightOf) := goodIn_app (goodIn_of _ (by decide +kernel)) ggX5_weight_X5_weightOf
theorem dX5_weight_0 : decode cX5_weight 0 = .ok (.aload_n 0, 1) := by decide +kernel
theorem dX5_weight_1 : decode cX5_weight 1 = .ok (.iload_n 1, 1) := by decide +kernel
theorem dX5_weight_2 : decode cX5_weight 2 = .ok (.iload_n 2, 1) := by decide +kernel
theorem dX5_weight_3 : decode cX5_weight 3 = .ok (.iload_n 3, 1) := by decide +kernel
theorem dX5_weight_4 : decode cX5_weight 4 = .ok (.iload 4, 2) := by decide +kernel
theorem dX5_weight_6 : decode cX5_weight 6 = .ok (.invokevirtual 97, 3) := by decide +kernel
theorem dX5_weight_9 : decode cX5_weight 9 = .ok (.istore 5, 2) := by decide +kernel
theorem dX5_weight_11 : decode cX5_weight 11 = .ok (.iload 5, 2) := by decide +kernel
theorem dX5_weight_13 : decode cX5_weight 13 = .ok (.ifCond .ge 8, 3) := by decide +kernel
theorem dX5_weight_16 : decode cX5_weight 16 = .ok (.iload 5, 2) := by decide +kernel
theorem dX5_weight_18 : decode cX5_weight 18 = .ok (.goto 16, 3) := by decide +kernel
theorem dX5_weight_21 : decode cX5_weight 21 = .ok (.sipush 1000, 3) := by decide +kernel
theorem dX5_weight_24 : decode cX5_weight 24 = .ok (.aload_n 0, 1) := by decide +kernel
theorem dX5_weight_25 : decode cX5_weight 25 = .ok (.iload_n 1, 1) := by decide +kernel
theorem dX5_weight_26 : decode cX5_weight 26 = .ok (.iload_n 2, 1) := by decide +kernel
theorem dX5_weight_27 : decode cX5_weight 27 = .ok (.iload_n 3, 1) := by decide +kernel
theorem dX5_weight_28 : decode cX5_weight 28 = .ok (.iload 4, 2) := by decide +kernel
theorem dX5_weight_30 : decode cX5_weight 30 = .ok (.invokevirtual 71, 3) := by decide +kernel
theorem dX5_weight_33 : decode cX5_weight 33 = .ok (.iadd, 1) := by decide +kernel
theorem dX5_weight_34 : decode cX5_weight 34 = .ok (.ireturn, 1) := by decide +kernel
set_option maxRecDepth 20000 in
theorem ggX5_sumOfPupils_X5_of : GoodIn wsX5_sumOfPupils wsX5_of := goodIn_r _ [5, 6, 7, 8, 9, 10, 11, 12, 13, 14, 15, 16, 17, 18] (by decide +kernel) (by decide +kernel)
set_option maxRecDepth 20000 in
theorem gX5_sumOfPupils_X5_of : GoodIn wsX5_sumOfPupils (wsV RX5 56 RX5 yX5_of wsX5_of) := goodIn_app (goodIn_of _ (by decide +kernel)) ggX5_sumOfPupils_X5_of
theorem dX5_sumOfPupils_0 : decode cX5_sumOfPupils 0 = .ok (.iconst 0, 1) := by decide +kernel
theorem dX5_sumOfPupils_1 : decode cX5_sumOfPupils 1 = .ok (.istore_n 2, 1) := by decide +kernel
theorem dX5_sumOfPupils_2 : decode cX5_sumOfPupils 2 = .ok (.iconst 0, 1) := by decide +kernel
theorem dX5_sumOfPupils_3 : decode cX5_sumOfPupils 3 = .ok (.istore_n 3, 1) := by decide +kernel
theorem dX5_sumOfPupils_4 : decode cX5_sumOfPupils 4 = .ok (.iload_n 3, 1) := by decide +kernel
theorem dX5_sumOfPupils_5 : decode cX5_sumOfPupils 5 = .ok (.bipush 10, 2) := by decide +kernel
theorem dX5_sumOfPupils_7 : decode cX5_sumOfPupils 7 = .ok (.if_icmp .ge 18, 3) := by decide +kernel
theorem dX5_sumOfPupils_10 : decode cX5_sumOfPupils 10 = .ok (.iload_n 2, 1) := by decide +kernel
theorem dX5_sumOfPupils_11 : decode cX5_sumOfPupils 11 = .ok (.aload_n 0, 1) := by decide +kernel
theorem dX5_sumOfPupils_12 : decode cX5_sumOfPupils 12 = .ok (.iload_n 3, 1) := by decide +kernel
theorem dX5_sumOfPupils_13 : decode cX5_sumOfPupils 13 = .ok (.iload_n 1, 1) := by decide +kernel
theorem dX5_sumOfPupils_14 : decode cX5_sumOfPupils 14 = .ok (.invokevirtual 56, 3) := by decide +kernel
theorem dX5_sumOfPupils_17 : decode cX5_sumOfPupils 17 = .ok (.iadd, 1) := by decide +kernel
theorem dX5_sumOfPupils_18 : decode cX5_sumOfPupils 18 = .ok (.istore_n 2, 1) := by decide +kernel
theorem dX5_sumOfPupils_19 : decode cX5_sumOfPupils 19 = .ok (.iinc 3 1, 3) := by decide +kernel
theorem dX5_sumOfPupils_22 : decode cX5_sumOfPupils 22 = .ok (.goto (-18), 3) := by decide +kernel
theorem dX5_sumOfPupils_25 : decode cX5_sumOfPupils 25 = .ok (.iload_n 2, 1) := by decide +kernel
theorem dX5_sumOfPupils_26 : decode cX5_sumOfPupils 26 = .ok (.ireturn, 1) := by decide +kernel
theorem dX5_grudges_0 : decode cX5_grudges 0 = .ok (.iconst 0, 1) := by decide +kernel
theorem dX5_grudges_1 : decode cX5_grudges 1 = .ok (.istore_n 1, 1) := by decide +kernel
theorem dX5_grudges_2 : decode cX5_grudges 2 = .ok (.iconst 0, 1) := by decide +kernel
theorem dX5_grudges_3 : decode cX5_grudges 3 = .ok (.istore_n 2, 1) := by decide +kernel
theorem dX5_grudges_4 : decode cX5_grudges 4 = .ok (.iload_n 2, 1) := by decide +kernel
theorem dX5_grudges_5 : decode cX5_grudges 5 = .ok (.iconst 5, 1) := by decide +kernel
theorem dX5_grudges_6 : decode cX5_grudges 6 = .ok (.if_icmp .ge 21, 3) := by decide +kernel
theorem dX5_grudges_9 : decode cX5_grudges 9 = .ok (.iload_n 1, 1) := by decide +kernel
theorem dX5_grudges_10 : decode cX5_grudges 10 = .ok (.aload_n 0, 1) := by decide +kernel
theorem dX5_grudges_11 : decode cX5_grudges 11 = .ok (.getfield 7, 3) := by decide +kernel
theorem dX5_grudges_14 : decode cX5_grudges 14 = .ok (.bipush 13, 2) := by decide +kernel
theorem dX5_grudges_16 : decode cX5_grudges 16 = .ok (.iload_n 2, 1) := by decide +kernel
theorem dX5_grudges_17 : decode cX5_grudges 17 = .ok (.iadd, 1) := by decide +kernel
theorem dX5_grudges_18 : decode cX5_grudges 18 = .ok (.iaload, 1) := by decide +kernel
theorem dX5_grudges_19 : decode cX5_grudges 19 = .ok (.iadd, 1) := by decide +kernel
theorem dX5_grudges_20 : decode cX5_grudges 20 = .ok (.istore_n 1, 1) := by decide +kernel
theorem dX5_grudges_21 : decode cX5_grudges 21 = .ok (.iinc 2 1, 3) := by decide +kernel
theorem dX5_grudges_24 : decode cX5_grudges 24 = .ok (.goto (-20), 3) := by decide +kernel
theorem dX5_grudges_27 : decode cX5_grudges 27 = .ok (.iload_n 1, 1) := by decide +kernel
theorem dX5_grudges_28 : decode cX5_grudges 28 = .ok (.ireturn, 1) := by decide +kernel
set_option maxRecDepth 20000 in
theorem ggX5_wornOut_X5_noveltyOf : GoodIn wsX5_wornOut wsX5_noveltyOf := goodIn_r _ [6, 1, 7, 8, 9, 5, 10, 11, 12, 13, 14, 15, 16, 17, 18, 19, 20, 21, 22, 23, 24, 25, 26, 27, 28, 29, 30] (by decide +kernel) (by decide +kernel)
set_option maxRecDepth 20000 in
theorem gX5_wornOut_X5_noveltyOf : GoodIn wsX5_wornOut (wsV RX5 62 RX5 yX5_noveltyOf wsX5_noveltyOf) := goodIn_app (goodIn_of _ (by decide +kernel)) ggX5_wornOut_X5_noveltyOf
theorem dX5_wornOut_0 : decode cX5_wornOut 0 = .ok (.iconst 0, 1) := by decide +kernel
theorem dX5_wornOut_1 : decode cX5_wornOut 1 = .ok (.istore_n 1, 1) := by decide +kernel
theorem dX5_wornOut_2 : decode cX5_wornOut 2 = .ok (.iconst 0, 1) := by decide +kernel
theorem dX5_wornOut_3 : decode cX5_wornOut 3 = .ok (.istore_n 2, 1) := by decide +kernel
theorem dX5_wornOut_4 : decode cX5_wornOut 4 = .ok (.iload_n 2, 1) := by decide +kernel
theorem dX5_wornOut_5 : decode cX5_wornOut 5 = .ok (.aload_n 0, 1) := by decide +kernel
theorem dX5_wornOut_6 : decode cX5_wornOut 6 = .ok (.getfield 7, 3) := by decide +kernel
theorem dX5_wornOut_9 : decode cX5_wornOut 9 = .ok (.iconst 5, 1) := by decide +kernel
theorem dX5_wornOut_10 : decode cX5_wornOut 10 = .ok (.iaload, 1) := by decide +kernel
theorem dX5_wornOut_11 : decode cX5_wornOut 11 = .ok (.if_icmp .ge 49, 3) := by decide +kernel
theorem dX5_wornOut_14 : decode cX5_wornOut 14 = .ok (.iconst 0, 1) := by decide +kernel
theorem dX5_wornOut_15 : decode cX5_wornOut 15 = .ok (.istore_n 3, 1) := by decide +kernel
theorem dX5_wornOut_16 : decode cX5_wornOut 16 = .ok (.iconst 0, 1) := by decide +kernel
theorem dX5_wornOut_17 : decode cX5_wornOut 17 = .ok (.istore 4, 2) := by decide +kernel
theorem dX5_wornOut_19 : decode cX5_wornOut 19 = .ok (.iload 4, 2) := by decide +kernel
theorem dX5_wornOut_21 : decode cX5_wornOut 21 = .ok (.bipush 10, 2) := by decide +kernel
theorem dX5_wornOut_23 : decode cX5_wornOut 23 = .ok (.if_icmp .ge 19, 3) := by decide +kernel
theorem dX5_wornOut_26 : decode cX5_wornOut 26 = .ok (.iload_n 3, 1) := by decide +kernel
theorem dX5_wornOut_27 : decode cX5_wornOut 27 = .ok (.aload_n 0, 1) := by decide +kernel
theorem dX5_wornOut_28 : decode cX5_wornOut 28 = .ok (.iload 4, 2) := by decide +kernel
theorem dX5_wornOut_30 : decode cX5_wornOut 30 = .ok (.iload_n 2, 1) := by decide +kernel
theorem dX5_wornOut_31 : decode cX5_wornOut 31 = .ok (.invokevirtual 62, 3) := by decide +kernel
theorem dX5_wornOut_34 : decode cX5_wornOut 34 = .ok (.iadd, 1) := by decide +kernel
theorem dX5_wornOut_35 : decode cX5_wornOut 35 = .ok (.istore_n 3, 1) := by decide +kernel
theorem dX5_wornOut_36 : decode cX5_wornOut 36 = .ok (.iinc 4 1, 3) := by decide +kernel
theorem dX5_wornOut_39 : decode cX5_wornOut 39 = .ok (.goto (-20), 3) := by decide +kernel
theorem dX5_wornOut_42 : decode cX5_wornOut 42 = .ok (.iload_n 1, 1) := by decide +kernel
theorem dX5_wornOut_43 : decode cX5_wornOut 43 = .ok (.iload_n 3, 1) := by decide +kernel
theorem dX5_wornOut_44 : decode cX5_wornOut 44 = .ok (.ifCond .ne 7, 3) := by decide +kernel
theorem dX5_wornOut_47 : decode cX5_wornOut 47 = .ok (.iconst 1, 1) := by decide +kernel
theorem dX5_wornOut_48 : decode cX5_wornOut 48 = .ok (.goto 4, 3) := by decide +kernel
theorem dX5_wornOut_51 : decode cX5_wornOut 51 = .ok (.iconst 0, 1) := by decide +kernel
theorem dX5_wornOut_52 : decode cX5_wornOut 52 = .ok (.iadd, 1) := by decide +kernel
theorem dX5_wornOut_53 : decode cX5_wornOut 53 = .ok (.istore_n 1, 1) := by decide +kernel
theorem dX5_wornOut_54 : decode cX5_wornOut 54 = .ok (.iinc 2 1, 3) := by decide +kernel
theorem dX5_wornOut_57 : decode cX5_wornOut 57 = .ok (.goto (-53), 3) := by decide +kernel
theorem dX5_wornOut_60 : decode cX5_wornOut 60 = .ok (.iload_n 1, 1) := by decide +kernel
theorem dX5_wornOut_61 : decode cX5_wornOut 61 = .ok (.ireturn, 1) := by decide +kernel
set_option maxRecDepth 20000 in
theorem ggX5_count_X5_sumOfPupils : GoodIn wsX5_count wsX5_sumOfPupils := goodIn_r _ [8, 9, 10, 11, 7, 12, 1, 37, 38, 39, 40, 41, 42, 43, 44, 45, 46, 47, 48] (by decide +kernel) (by decide +kernel)
set_option maxRecDepth 20000 in
theorem gX5_count_X5_sumOfPupils : GoodIn wsX5_count (wsV RX5 149 RX5 yX5_sumOfPupils wsX5_sumOfPupils) := goodIn_app (goodIn_of _ (by decide +kernel)) ggX5_count_X5_sumOfPupils
set_option maxRecDepth 20000 in
theorem ggX5_count_X5_grudges : GoodIn wsX5_count wsX5_grudges := goodIn_r _ [16, 1, 37, 38, 39, 40, 41, 42, 43, 44, 45, 46, 47, 48] (by decide +kernel) (by decide +kernel)
set_option maxRecDepth 20000 in
theorem gX5_count_X5_grudges : GoodIn wsX5_count (wsV RX5 152 RX5 yX5_grudges wsX5_grudges) := goodIn_app (goodIn_of _ (by decide +kernel)) ggX5_count_X5_grudges
set_option maxRecDepth 20000 in
theorem ggX5_count_X5_wornOut : GoodIn wsX5_count wsX5_wornOut := goodIn_r _ [20, 1, 21, 22, 23, 7, 24, 25, 26, 27, 28, 29, 30, 31, 32, 33, 34, 35, 36, 37, 38, 39, 40, 41, 42, 43, 44, 45, 46, 47, 48] (by decide +kernel) (by decide +kernel)
set_option maxRecDepth 20000 in
theorem gX5_count_X5_wornOut : GoodIn wsX5_count (wsV RX5 156 RX5 yX5_wornOut wsX5_wornOut) := goodIn_app (goodIn_of _ (by decide +kernel)) ggX5_count_X5_wornOut
theorem dX5_count_0 : decode cX5_count 0 = .ok (.iload_n 1, 1) := by decide +kernel
theorem dX5_count_1 : decode cX5_count 1 = .ok (.tableswitch 160 0 19 #[95, 95, 95, 95, 95, 95, 95, 95, 95, 95, 95, 102, 108, 114, 126, 134, 140, 145, 150, 155], 95) := by decide +kernel
theorem dX5_count_96 : decode cX5_count 96 = .ok (.aload_n 0, 1) := by decide +kernel
theorem dX5_count_97 : decode cX5_count 97 = .ok (.getfield 7, 3) := by decide +kernel
theorem dX5_count_100 : decode cX5_count 100 = .ok (.iload_n 1, 1) := by decide +kernel
theorem dX5_count_101 : decode cX5_count 101 = .ok (.iaload, 1) := by decide +kernel
theorem dX5_count_102 : decode cX5_count 102 = .ok (.ireturn, 1) := by decide +kernel
theorem dX5_count_103 : decode cX5_count 103 = .ok (.aload_n 0, 1) := by decide +kernel
theorem dX5_count_104 : decode cX5_count 104 = .ok (.iconst 1, 1) := by decide +kernel
theorem dX5_count_105 : decode cX5_count 105 = .ok (.invokevirtual 149, 3) := by decide +kernel
theorem dX5_count_108 : decode cX5_count 108 = .ok (.ireturn, 1) := by decide +kernel
theorem dX5_count_109 : decode cX5_count 109 = .ok (.aload_n 0, 1) := by decide +kernel
theorem dX5_count_110 : decode cX5_count 110 = .ok (.iconst 5, 1) := by decide +kernel
theorem dX5_count_111 : decode cX5_count 111 = .ok (.invokevirtual 149, 3) := by decide +kernel
theorem dX5_count_114 : decode cX5_count 114 = .ok (.ireturn, 1) := by decide +kernel
theorem dX5_count_115 : decode cX5_count 115 = .ok (.aload_n 0, 1) := by decide +kernel
theorem dX5_count_116 : decode cX5_count 116 = .ok (.iconst 1, 1) := by decide +kernel
theorem dX5_count_117 : decode cX5_count 117 = .ok (.invokevirtual 149, 3) := by decide +kernel
theorem dX5_count_120 : decode cX5_count 120 = .ok (.aload_n 0, 1) := by decide +kernel
theorem dX5_count_121 : decode cX5_count 121 = .ok (.iconst 5, 1) := by decide +kernel
theorem dX5_count_122 : decode cX5_count 122 = .ok (.invokevirtual 149, 3) := by decide +kernel
theorem dX5_count_125 : decode cX5_count 125 = .ok (.iadd, 1) := by decide +kernel
theorem dX5_count_126 : decode cX5_count 126 = .ok (.ireturn, 1) := by decide +kernel
theorem dX5_count_127 : decode cX5_count 127 = .ok (.aload_n 0, 1) := by decide +kernel
theorem dX5_count_128 : decode cX5_count 128 = .ok (.getfield 7, 3) := by decide +kernel
theorem dX5_count_131 : decode cX5_count 131 = .ok (.bipush 11, 2) := by decide +kernel
theorem dX5_count_133 : decode cX5_count 133 = .ok (.iaload, 1) := by decide +kernel
theorem dX5_count_134 : decode cX5_count 134 = .ok (.ireturn, 1) := by decide +kernel
theorem dX5_count_135 : decode cX5_count 135 = .ok (.aload_n 0, 1) := by decide +kernel
theorem dX5_count_136 : decode cX5_count 136 = .ok (.iconst 0, 1) := by decide +kernel
theorem dX5_count_137 : decode cX5_count 137 = .ok (.invokevirtual 149, 3) := by decide +kernel
theorem dX5_count_140 : decode cX5_count 140 = .ok (.ireturn, 1) := by decide +kernel
theorem dX5_count_141 : decode cX5_count 141 = .ok (.aload_n 0, 1) := by decide +kernel
theorem dX5_count_142 : decode cX5_count 142 = .ok (.invokevirtual 152, 3) := by decide +kernel
theorem dX5_count_145 : decode cX5_count 145 = .ok (.ireturn, 1) := by decide +kernel
theorem dX5_count_146 : decode cX5_count 146 = .ok (.aload_n 0, 1) := by decide +kernel
theorem dX5_count_147 : decode cX5_count 147 = .ok (.invokevirtual 156, 3) := by decide +kernel
theorem dX5_count_150 : decode cX5_count 150 = .ok (.ireturn, 1) := by decide +kernel
theorem dX5_count_151 : decode cX5_count 151 = .ok (.aload_n 0, 1) := by decide +kernel
theorem dX5_count_152 : decode cX5_count 152 = .ok (.getfield 105, 3) := by decide +kernel
theorem dX5_count_155 : decode cX5_count 155 = .ok (.ireturn, 1) := by decide +kernel
theorem dX5_count_156 : decode cX5_count 156 = .ok (.aload_n 0, 1) := by decide +kernel
theorem dX5_count_157 : decode cX5_count 157 = .ok (.getfield 34, 3) := by decide +kernel
theorem dX5_count_160 : decode cX5_count 160 = .ok (.ireturn, 1) := by decide +kernel
theorem dX5_count_161 : decode cX5_count 161 = .ok (.bipush (-2), 2) := by decide +kernel
theorem dX5_count_163 : decode cX5_count 163 = .ok (.ireturn, 1) := by decide +kernel
set_option maxRecDepth 20000 in
theorem ggX5_bestExcuse_X5_isPupil : GoodIn wsX5_bestExcuse wsX5_isPupil := goodIn_r _ [5, 6, 7, 4, 8] (by decide +kernel) (by decide +kernel)
set_option maxRecDepth 20000 in
theorem gX5_bestExcuse_X5_isPupil : GoodIn wsX5_bestExcuse (va_wsS RX5 83 yX5_isPupil wsX5_isPupil) := goodIn_app (goodIn_of _ (by decide +kernel)) ggX5_bestExcuse_X5_isPupil
set_option maxRecDepth 20000 in
theorem ggX5_bestExcuse_X5_in : GoodIn wsX5_bestExcuse wsX5_in := goodIn_r _ [8] (by decide +kernel) (by decide +kernel)
set_option maxRecDepth 20000 in
theorem gX5_bestExcuse_X5_in : GoodIn wsX5_bestExcuse (va_wsS RX5 30 yX5_in wsX5_in) := goodIn_app (goodIn_of _ (by decide +kernel)) ggX5_bestExcuse_X5_in
set_option maxRecDepth 20000 in
theorem ggX5_bestExcuse_X5_reason : GoodIn wsX5_bestExcuse wsX5_reason := goodIn_r _ [12, 1, 13, 14, 15, 4, 16, 17, 18, 19, 20, 21, 22, 23, 24, 25, 26, 27, 28, 29, 30, 31, 32, 33, 34, 35, 36, 37, 38, 39, 40, 41, 42, 43, 44, 45, 46, 47, 48, 49, 50, 51, 52, 53, 54, 55, 56, 57, 58, 59, 60] (by decide +kernel) (by decide +kernel)
set_option maxRecDepth 20000 in
theorem gX5_bestExcuse_X5_reason : GoodIn wsX5_bestExcuse (wsV RX5 86 RX5 yX5_reason wsX5_reason) := goodIn_app (goodIn_of _ (by decide +kernel)) ggX5_bestExcuse_X5_reason
set_option maxRecDepth 20000 in
theorem ggX5_bestExcuse_X5_weightOf : GoodIn wsX5_bestExcuse wsX5_weightOf := goodIn_r _ [28, 1, 21, 22, 23, 4, 24, 29, 30, 31, 32, 33, 34, 35, 36, 13, 14, 15, 16, 37, 38, 39, 40, 41, 42, 43, 44, 45, 46, 47, 48, 17, 18, 19, 20, 49, 50, 51, 52, 53, 54, 55, 56, 57, 58, 59, 60] (by decide +kernel) (by decide +kernel)
set_option maxRecDepth 20000 in
theorem gX5_bestExcuse_X5_weightOf : GoodIn wsX5_bestExcuse (wsV RX5 71 RX5 yX5_weightOf wsX5_weightOf) := goodIn_app (goodIn_of _ (by decide +kernel)) ggX5_bestExcuse_X5_weightOf
theorem dX5_bestExcuse_0 : decode cX5_bestExcuse 0 = .ok (.iload_n 1, 1) := by decide +kernel
theorem dX5_bestExcuse_1 : decode cX5_bestExcuse 1 = .ok (.invokestatic 83, 3) := by decide +kernel
theorem dX5_bestExcuse_4 : decode cX5_bestExcuse 4 = .ok (.ifCond .eq 13, 3) := by decide +kernel
theorem dX5_bestExcuse_7 : decode cX5_bestExcuse 7 = .ok (.iload_n 2, 1) := by decide +kernel
theorem dX5_bestExcuse_8 : decode cX5_bestExcuse 8 = .ok (.iconst 1, 1) := by decide +kernel
theorem dX5_bestExcuse_9 : decode cX5_bestExcuse 9 = .ok (.bipush 99, 2) := by decide +kernel
theorem dX5_bestExcuse_11 : decode cX5_bestExcuse 11 = .ok (.invokestatic 30, 3) := by decide +kernel
theorem dX5_bestExcuse_14 : decode cX5_bestExcuse 14 = .ok (.ifCond .ne 17, 3) := by decide +kernel
theorem dX5_bestExcuse_17 : decode cX5_bestExcuse 17 = .ok (.iload_n 1, 1) := by decide +kernel
theorem dX5_bestExcuse_18 : decode cX5_bestExcuse 18 = .ok (.invokestatic 83, 3) := by decide +kernel
theorem dX5_bestExcuse_21 : decode cX5_bestExcuse 21 = .ok (.ifCond .eq 8, 3) := by decide +kernel
theorem dX5_bestExcuse_24 : decode cX5_bestExcuse 24 = .ok (.bipush (-2), 2) := by decide +kernel
theorem dX5_bestExcuse_26 : decode cX5_bestExcuse 26 = .ok (.goto 4, 3) := by decide +kernel
theorem dX5_bestExcuse_29 : decode cX5_bestExcuse 29 = .ok (.iconst (-1), 1) := by decide +kernel
theorem dX5_bestExcuse_30 : decode cX5_bestExcuse 30 = .ok (.ireturn, 1) := by decide +kernel
theorem dX5_bestExcuse_31 : decode cX5_bestExcuse 31 = .ok (.bipush (-6), 2) := by decide +kernel
theorem dX5_bestExcuse_33 : decode cX5_bestExcuse 33 = .ok (.istore_n 3, 1) := by decide +kernel
theorem dX5_bestExcuse_34 : decode cX5_bestExcuse 34 = .ok (.iconst 0, 1) := by decide +kernel
theorem dX5_bestExcuse_35 : decode cX5_bestExcuse 35 = .ok (.istore 4, 2) := by decide +kernel
theorem dX5_bestExcuse_37 : decode cX5_bestExcuse 37 = .ok (.iload 4, 2) := by decide +kernel
theorem dX5_bestExcuse_39 : decode cX5_bestExcuse 39 = .ok (.aload_n 0, 1) := by decide +kernel
theorem dX5_bestExcuse_40 : decode cX5_bestExcuse 40 = .ok (.getfield 7, 3) := by decide +kernel
theorem dX5_bestExcuse_43 : decode cX5_bestExcuse 43 = .ok (.iconst 5, 1) := by decide +kernel
theorem dX5_bestExcuse_44 : decode cX5_bestExcuse 44 = .ok (.iaload, 1) := by decide +kernel
theorem dX5_bestExcuse_45 : decode cX5_bestExcuse 45 = .ok (.if_icmp .ge 69, 3) := by decide +kernel
theorem dX5_bestExcuse_48 : decode cX5_bestExcuse 48 = .ok (.aload_n 0, 1) := by decide +kernel
theorem dX5_bestExcuse_49 : decode cX5_bestExcuse 49 = .ok (.iload_n 1, 1) := by decide +kernel
theorem dX5_bestExcuse_50 : decode cX5_bestExcuse 50 = .ok (.iload 4, 2) := by decide +kernel
theorem dX5_bestExcuse_52 : decode cX5_bestExcuse 52 = .ok (.bipush (-6), 2) := by decide +kernel
theorem dX5_bestExcuse_54 : decode cX5_bestExcuse 54 = .ok (.iload_n 2, 1) := by decide +kernel
theorem dX5_bestExcuse_55 : decode cX5_bestExcuse 55 = .ok (.invokevirtual 86, 3) := by decide +kernel
theorem dX5_bestExcuse_58 : decode cX5_bestExcuse 58 = .ok (.ifCond .ne 7, 3) := by decide +kernel
theorem dX5_bestExcuse_61 : decode cX5_bestExcuse 61 = .ok (.iconst 1, 1) := by decide +kernel
theorem dX5_bestExcuse_62 : decode cX5_bestExcuse 62 = .ok (.goto 4, 3) := by decide +kernel
theorem dX5_bestExcuse_65 : decode cX5_bestExcuse 65 = .ok (.iconst 0, 1) := by decide +kernel
theorem dX5_bestExcuse_66 : decode cX5_bestExcuse 66 = .ok (.istore 5, 2) := by decide +kernel
theorem dX5_bestExcuse_68 : decode cX5_bestExcuse 68 = .ok (.iload 5, 2) := by decide +kernel
theorem dX5_bestExcuse_70 : decode cX5_bestExcuse 70 = .ok (.ifCond .eq 36, 3) := by decide +kernel
theorem dX5_bestExcuse_73 : decode cX5_bestExcuse 73 = .ok (.iload_n 3, 1) := by decide +kernel
theorem dX5_bestExcuse_74 : decode cX5_bestExcuse 74 = .ok (.bipush (-6), 2) := by decide +kernel
theorem dX5_bestExcuse_76 : decode cX5_bestExcuse 76 = .ok (.if_icmp .eq 25, 3) := by decide +kernel
theorem dX5_bestExcuse_79 : decode cX5_bestExcuse 79 = .ok (.aload_n 0, 1) := by decide +kernel
theorem dX5_bestExcuse_80 : decode cX5_bestExcuse 80 = .ok (.iload_n 1, 1) := by decide +kernel
theorem dX5_bestExcuse_81 : decode cX5_bestExcuse 81 = .ok (.iload 4, 2) := by decide +kernel
theorem dX5_bestExcuse_83 : decode cX5_bestExcuse 83 = .ok (.bipush (-6), 2) := by decide +kernel
theorem dX5_bestExcuse_85 : decode cX5_bestExcuse 85 = .ok (.iload_n 2, 1) := by decide +kernel
theorem dX5_bestExcuse_86 : decode cX5_bestExcuse 86 = .ok (.invokevirtual 71, 3) := by decide +kernel
theorem dX5_bestExcuse_89 : decode cX5_bestExcuse 89 = .ok (.aload_n 0, 1) := by decide +kernel
theorem dX5_bestExcuse_90 : decode cX5_bestExcuse 90 = .ok (.iload_n 1, 1) := by decide +kernel
theorem dX5_bestExcuse_91 : decode cX5_bestExcuse 91 = .ok (.iload_n 3, 1) := by decide +kernel
theorem dX5_bestExcuse_92 : decode cX5_bestExcuse 92 = .ok (.bipush (-6), 2) := by decide +kernel
theorem dX5_bestExcuse_94 : decode cX5_bestExcuse 94 = .ok (.iload_n 2, 1) := by decide +kernel
theorem dX5_bestExcuse_95 : decode cX5_bestExcuse 95 = .ok (.invokevirtual 71, 3) := by decide +kernel
theorem dX5_bestExcuse_98 : decode cX5_bestExcuse 98 = .ok (.if_icmp .le 8, 3) := by decide +kernel
theorem dX5_bestExcuse_101 : decode cX5_bestExcuse 101 = .ok (.iload 4, 2) := by decide +kernel
theorem dX5_bestExcuse_103 : decode cX5_bestExcuse 103 = .ok (.goto 4, 3) := by decide +kernel
theorem dX5_bestExcuse_106 : decode cX5_bestExcuse 106 = .ok (.iload_n 3, 1) := by decide +kernel
theorem dX5_bestExcuse_107 : decode cX5_bestExcuse 107 = .ok (.istore_n 3, 1) := by decide +kernel
theorem dX5_bestExcuse_108 : decode cX5_bestExcuse 108 = .ok (.iinc 4 1, 3) := by decide +kernel
theorem dX5_bestExcuse_111 : decode cX5_bestExcuse 111 = .ok (.goto (-74), 3) := by decide +kernel
theorem dX5_bestExcuse_114 : decode cX5_bestExcuse 114 = .ok (.iload_n 3, 1) := by decide +kernel
theorem dX5_bestExcuse_115 : decode cX5_bestExcuse 115 = .ok (.ireturn, 1) := by decide +kernel
set_option maxRecDepth 20000 in
theorem ggX5_bestWitness_X5_isPupil : GoodIn wsX5_bestWitness wsX5_isPupil := goodIn_r _ [4, 5, 6, 3, 7] (by decide +kernel) (by decide +kernel)
set_option maxRecDepth 20000 in
theorem gX5_bestWitness_X5_isPupil : GoodIn wsX5_bestWitness (va_wsS RX5 83 yX5_isPupil wsX5_isPupil) := goodIn_app (goodIn_of _ (by decide +kernel)) ggX5_bestWitness_X5_isPupil
set_option maxRecDepth 20000 in
theorem ggX5_bestWitness_X5_isExcuse : GoodIn wsX5_bestWitness wsX5_isExcuse := goodIn_r _ [11, 12, 5, 6, 3, 7, 21, 22, 23, 24, 25, 26, 27, 28, 29, 30, 31, 32] (by decide +kernel) (by decide +kernel)
set_option maxRecDepth 20000 in
theorem gX5_bestWitness_X5_isExcuse : GoodIn wsX5_bestWitness (wsV RX5 79 RX5 yX5_isExcuse wsX5_isExcuse) := goodIn_app (goodIn_of _ (by decide +kernel)) ggX5_bestWitness_X5_isExcuse
set_option maxRecDepth 20000 in
theorem ggX5_bestWitness_X5_in : GoodIn wsX5_bestWitness wsX5_in := goodIn_r _ [7] (by decide +kernel) (by decide +kernel)
set_option maxRecDepth 20000 in
theorem gX5_bestWitness_X5_in : GoodIn wsX5_bestWitness (va_wsS RX5 30 yX5_in wsX5_in) := goodIn_app (goodIn_of _ (by decide +kernel)) ggX5_bestWitness_X5_in
set_option maxRecDepth 20000 in
theorem ggX5_bestWitness_X5_of : GoodIn wsX5_bestWitness wsX5_of := goodIn_r _ [16, 12, 21, 22, 23, 24, 25, 26, 27, 28, 29, 30, 31, 32] (by decide +kernel) (by decide +kernel)
set_option maxRecDepth 20000 in
theorem gX5_bestWitness_X5_of : GoodIn wsX5_bestWitness (wsV RX5 56 RX5 yX5_of wsX5_of) := goodIn_app (goodIn_of _ (by decide +kernel)) ggX5_bestWitness_X5_of
set_option maxRecDepth 20000 in
theorem ggX5_bestWitness_X5_standsBy : GoodIn wsX5_bestWitness wsX5_standsBy := goodIn_r _ [20, 13, 14, 15, 3, 16, 12, 21, 22, 23, 24, 25, 26, 27, 28, 29, 30, 31, 32] (by decide +kernel) (by decide +kernel)
set_option maxRecDepth 20000 in
theorem gX5_bestWitness_X5_standsBy : GoodIn wsX5_bestWitness (wsV RX5 68 RX5 yX5_standsBy wsX5_standsBy) := goodIn_app (goodIn_of _ (by decide +kernel)) ggX5_bestWitness_X5_standsBy
theorem dX5_bestWitness_0 : decode cX5_bestWitness 0 = .ok (.iload_n 1, 1) := by decide +kernel
theorem dX5_bestWitness_1 : decode cX5_bestWitness 1 = .ok (.invokestatic 83, 3) := by decide +kernel
theorem dX5_bestWitness_4 : decode cX5_bestWitness 4 = .ok (.ifCond .eq 11, 3) := by decide +kernel
theorem dX5_bestWitness_7 : decode cX5_bestWitness 7 = .ok (.aload_n 0, 1) := by decide +kernel
theorem dX5_bestWitness_8 : decode cX5_bestWitness 8 = .ok (.iload_n 2, 1) := by decide +kernel
theorem dX5_bestWitness_9 : decode cX5_bestWitness 9 = .ok (.invokevirtual 79, 3) := by decide +kernel
theorem dX5_bestWitness_12 : decode cX5_bestWitness 12 = .ok (.ifCond .ne 5, 3) := by decide +kernel
theorem dX5_bestWitness_15 : decode cX5_bestWitness 15 = .ok (.iconst (-1), 1) := by decide +kernel
theorem dX5_bestWitness_16 : decode cX5_bestWitness 16 = .ok (.ireturn, 1) := by decide +kernel
theorem dX5_bestWitness_17 : decode cX5_bestWitness 17 = .ok (.iload_n 3, 1) := by decide +kernel
theorem dX5_bestWitness_18 : decode cX5_bestWitness 18 = .ok (.iconst 1, 1) := by decide +kernel
theorem dX5_bestWitness_19 : decode cX5_bestWitness 19 = .ok (.bipush 99, 2) := by decide +kernel
theorem dX5_bestWitness_21 : decode cX5_bestWitness 21 = .ok (.invokestatic 30, 3) := by decide +kernel
theorem dX5_bestWitness_24 : decode cX5_bestWitness 24 = .ok (.ifCond .ne 6, 3) := by decide +kernel
theorem dX5_bestWitness_27 : decode cX5_bestWitness 27 = .ok (.bipush (-2), 2) := by decide +kernel
theorem dX5_bestWitness_29 : decode cX5_bestWitness 29 = .ok (.ireturn, 1) := by decide +kernel
theorem dX5_bestWitness_30 : decode cX5_bestWitness 30 = .ok (.bipush (-6), 2) := by decide +kernel
theorem dX5_bestWitness_32 : decode cX5_bestWitness 32 = .ok (.istore 4, 2) := by decide +kernel
theorem dX5_bestWitness_34 : decode cX5_bestWitness 34 = .ok (.iconst 0, 1) := by decide +kernel
theorem dX5_bestWitness_35 : decode cX5_bestWitness 35 = .ok (.istore 5, 2) := by decide +kernel
theorem dX5_bestWitness_37 : decode cX5_bestWitness 37 = .ok (.iload 5, 2) := by decide +kernel
theorem dX5_bestWitness_39 : decode cX5_bestWitness 39 = .ok (.bipush 10, 2) := by decide +kernel
theorem dX5_bestWitness_41 : decode cX5_bestWitness 41 = .ok (.if_icmp .ge 70, 3) := by decide +kernel
theorem dX5_bestWitness_44 : decode cX5_bestWitness 44 = .ok (.iload 5, 2) := by decide +kernel
theorem dX5_bestWitness_46 : decode cX5_bestWitness 46 = .ok (.iload_n 1, 1) := by decide +kernel
theorem dX5_bestWitness_47 : decode cX5_bestWitness 47 = .ok (.if_icmp .eq 17, 3) := by decide +kernel
theorem dX5_bestWitness_50 : decode cX5_bestWitness 50 = .ok (.aload_n 0, 1) := by decide +kernel
theorem dX5_bestWitness_51 : decode cX5_bestWitness 51 = .ok (.iload 5, 2) := by decide +kernel
theorem dX5_bestWitness_53 : decode cX5_bestWitness 53 = .ok (.iconst 0, 1) := by decide +kernel
theorem dX5_bestWitness_54 : decode cX5_bestWitness 54 = .ok (.invokevirtual 56, 3) := by decide +kernel
theorem dX5_bestWitness_57 : decode cX5_bestWitness 57 = .ok (.ifCond .le 7, 3) := by decide +kernel
theorem dX5_bestWitness_60 : decode cX5_bestWitness 60 = .ok (.iconst 1, 1) := by decide +kernel
theorem dX5_bestWitness_61 : decode cX5_bestWitness 61 = .ok (.goto 4, 3) := by decide +kernel
theorem dX5_bestWitness_64 : decode cX5_bestWitness 64 = .ok (.iconst 0, 1) := by decide +kernel
theorem dX5_bestWitness_65 : decode cX5_bestWitness 65 = .ok (.istore 6, 2) := by decide +kernel
theorem dX5_bestWitness_67 : decode cX5_bestWitness 67 = .ok (.iload 6, 2) := by decide +kernel
theorem dX5_bestWitness_69 : decode cX5_bestWitness 69 = .ok (.ifCond .eq 32, 3) := by decide +kernel
theorem dX5_bestWitness_72 : decode cX5_bestWitness 72 = .ok (.iload 4, 2) := by decide +kernel
theorem dX5_bestWitness_74 : decode cX5_bestWitness 74 = .ok (.bipush (-6), 2) := by decide +kernel
theorem dX5_bestWitness_76 : decode cX5_bestWitness 76 = .ok (.if_icmp .eq 20, 3) := by decide +kernel
theorem dX5_bestWitness_79 : decode cX5_bestWitness 79 = .ok (.aload_n 0, 1) := by decide +kernel
theorem dX5_bestWitness_80 : decode cX5_bestWitness 80 = .ok (.iload 5, 2) := by decide +kernel
theorem dX5_bestWitness_82 : decode cX5_bestWitness 82 = .ok (.iload_n 1, 1) := by decide +kernel
theorem dX5_bestWitness_83 : decode cX5_bestWitness 83 = .ok (.invokevirtual 68, 3) := by decide +kernel
theorem dX5_bestWitness_86 : decode cX5_bestWitness 86 = .ok (.aload_n 0, 1) := by decide +kernel
theorem dX5_bestWitness_87 : decode cX5_bestWitness 87 = .ok (.iload 4, 2) := by decide +kernel
theorem dX5_bestWitness_89 : decode cX5_bestWitness 89 = .ok (.iload_n 1, 1) := by decide +kernel
theorem dX5_bestWitness_90 : decode cX5_bestWitness 90 = .ok (.invokevirtual 68, 3) := by decide +kernel
theorem dX5_bestWitness_93 : decode cX5_bestWitness 93 = .ok (.if_icmp .le 8, 3) := by decide +kernel
theorem dX5_bestWitness_96 : decode cX5_bestWitness 96 = .ok (.iload 5, 2) := by decide +kernel
theorem dX5_bestWitness_98 : decode cX5_bestWitness 98 = .ok (.goto 5, 3) := by decide +kernel
theorem dX5_bestWitness_101 : decode cX5_bestWitness 101 = .ok (.iload 4, 2) := by decide +kernel
theorem dX5_bestWitness_103 : decode cX5_bestWitness 103 = .ok (.istore 4, 2) := by decide +kernel
theorem dX5_bestWitness_105 : decode cX5_bestWitness 105 = .ok (.iinc 5 1, 3) := by decide +kernel
theorem dX5_bestWitness_108 : decode cX5_bestWitness 108 = .ok (.goto (-71), 3) := by decide +kernel
theorem dX5_bestWitness_111 : decode cX5_bestWitness 111 = .ok (.iload 4, 2) := by decide +kernel
theorem dX5_bestWitness_113 : decode cX5_bestWitness 113 = .ok (.ireturn, 1) := by decide +kernel
set_option maxRecDepth 20000 in
theorem ggX5_mostMinutes_X5_isPupil : GoodIn wsX5_mostMinutes wsX5_isPupil := goodIn_r _ [4, 5, 6, 3, 7] (by decide +kernel) (by decide +kernel)
set_option maxRecDepth 20000 in
theorem gX5_mostMinutes_X5_isPupil : GoodIn wsX5_mostMinutes (va_wsS RX5 83 yX5_isPupil wsX5_isPupil) := goodIn_app (goodIn_of _ (by decide +kernel)) ggX5_mostMinutes_X5_isPupil
set_option maxRecDepth 20000 in
theorem ggX5_mostMinutes_X5_isExcuse : GoodIn wsX5_mostMinutes wsX5_isExcuse := goodIn_r _ [11, 12, 5, 6, 3, 7, 53, 54, 55, 56, 57, 58, 59, 60, 61, 62, 63, 64] (by decide +kernel) (by decide +kernel)
set_option maxRecDepth 20000 in
theorem gX5_mostMinutes_X5_isExcuse : GoodIn wsX5_mostMinutes (wsV RX5 79 RX5 yX5_isExcuse wsX5_isExcuse) := goodIn_app (goodIn_of _ (by decide +kernel)) ggX5_mostMinutes_X5_isExcuse
set_option maxRecDepth 20000 in
theorem ggX5_mostMinutes_X5_reason : GoodIn wsX5_mostMinutes wsX5_reason := goodIn_r _ [16, 12, 17, 18, 19, 3, 20, 21, 22, 23, 24, 25, 26, 27, 28, 29, 30, 31, 32, 33, 34, 35, 36, 37, 38, 39, 40, 41, 42, 43, 44, 45, 46, 47, 48, 49, 50, 51, 52, 53, 54, 55, 56, 57, 58, 59, 60, 61, 62, 63, 64] (by decide +kernel) (by decide +kernel)
set_option maxRecDepth 20000 in
theorem gX5_mostMinutes_X5_reason : GoodIn wsX5_mostMinutes (wsV RX5 86 RX5 yX5_reason wsX5_reason) := goodIn_app (goodIn_of _ (by decide +kernel)) ggX5_mostMinutes_X5_reason
theorem dX5_mostMinutes_0 : decode cX5_mostMinutes 0 = .ok (.iload_n 1, 1) := by decide +kernel
theorem dX5_mostMinutes_1 : decode cX5_mostMinutes 1 = .ok (.invokestatic 83, 3) := by decide +kernel
theorem dX5_mostMinutes_4 : decode cX5_mostMinutes 4 = .ok (.ifCond .eq 11, 3) := by decide +kernel
theorem dX5_mostMinutes_7 : decode cX5_mostMinutes 7 = .ok (.aload_n 0, 1) := by decide +kernel
theorem dX5_mostMinutes_8 : decode cX5_mostMinutes 8 = .ok (.iload_n 2, 1) := by decide +kernel
theorem dX5_mostMinutes_9 : decode cX5_mostMinutes 9 = .ok (.invokevirtual 79, 3) := by decide +kernel
theorem dX5_mostMinutes_12 : decode cX5_mostMinutes 12 = .ok (.ifCond .ne 5, 3) := by decide +kernel
theorem dX5_mostMinutes_15 : decode cX5_mostMinutes 15 = .ok (.iconst (-1), 1) := by decide +kernel
theorem dX5_mostMinutes_16 : decode cX5_mostMinutes 16 = .ok (.ireturn, 1) := by decide +kernel
theorem dX5_mostMinutes_17 : decode cX5_mostMinutes 17 = .ok (.bipush 99, 2) := by decide +kernel
theorem dX5_mostMinutes_19 : decode cX5_mostMinutes 19 = .ok (.istore_n 3, 1) := by decide +kernel
theorem dX5_mostMinutes_20 : decode cX5_mostMinutes 20 = .ok (.iload_n 3, 1) := by decide +kernel
theorem dX5_mostMinutes_21 : decode cX5_mostMinutes 21 = .ok (.ifCond .le 21, 3) := by decide +kernel
theorem dX5_mostMinutes_24 : decode cX5_mostMinutes 24 = .ok (.aload_n 0, 1) := by decide +kernel
theorem dX5_mostMinutes_25 : decode cX5_mostMinutes 25 = .ok (.iload_n 1, 1) := by decide +kernel
theorem dX5_mostMinutes_26 : decode cX5_mostMinutes 26 = .ok (.iload_n 2, 1) := by decide +kernel
theorem dX5_mostMinutes_27 : decode cX5_mostMinutes 27 = .ok (.bipush (-6), 2) := by decide +kernel
theorem dX5_mostMinutes_29 : decode cX5_mostMinutes 29 = .ok (.iload_n 3, 1) := by decide +kernel
theorem dX5_mostMinutes_30 : decode cX5_mostMinutes 30 = .ok (.invokevirtual 86, 3) := by decide +kernel
theorem dX5_mostMinutes_33 : decode cX5_mostMinutes 33 = .ok (.ifCond .le 9, 3) := by decide +kernel
theorem dX5_mostMinutes_36 : decode cX5_mostMinutes 36 = .ok (.iinc 3 (-1), 3) := by decide +kernel
theorem dX5_mostMinutes_39 : decode cX5_mostMinutes 39 = .ok (.goto (-19), 3) := by decide +kernel
theorem dX5_mostMinutes_42 : decode cX5_mostMinutes 42 = .ok (.iload_n 3, 1) := by decide +kernel
theorem dX5_mostMinutes_43 : decode cX5_mostMinutes 43 = .ok (.ifCond .ne 8, 3) := by decide +kernel
theorem dX5_mostMinutes_46 : decode cX5_mostMinutes 46 = .ok (.bipush (-6), 2) := by decide +kernel
theorem dX5_mostMinutes_48 : decode cX5_mostMinutes 48 = .ok (.goto 4, 3) := by decide +kernel
theorem dX5_mostMinutes_51 : decode cX5_mostMinutes 51 = .ok (.iload_n 3, 1) := by decide +kernel
theorem dX5_mostMinutes_52 : decode cX5_mostMinutes 52 = .ok (.ireturn, 1) := by decide +kernel
end
section
set_option maxRecDepth 20000 in
theorem ggL_law_X4_init : GoodIn wsL_law wsX4_init := goodIn_r _ [9, 10, 11, 12, 13, 14, 15, 16, 17, 18, 19, 20, 21, 22, 23, 24, 25, 26, 27, 28, 29, 30, 31, 32, 33, 34, 35, 36, 37, 38, 39, 40, 41, 42, 43, 44, 45, 46, 47, 48, 49, 50, 51, 52, 2, 53, 54, 55, 56, 57, 58, 59, 60, 61, 62, 63, 64, 65, 66, 67, 68, 69, 70, 71, 72, 73, 74, 75, 76, 77, 78, 79, 80, 81, 82, 83, 84, 617, 618, 619, 620, 621, 622, 623, 624, 625, 626, 627, 628, 629, 630, 631, 599, 600, 601, 602, 603, 604, 632, 633, 634, 635, 636, 637, 638, 639, 640, 641] (by decide +kernel) (by decide +kernel)
set_option maxRecDepth 20000 in
theorem gL_law_X4_init : GoodIn wsL_law (wsX4_init) := ggL_law_X4_init
set_option maxRecDepth 20000 in
theorem ggL_law_X5_init : GoodIn wsL_law wsX5_init := goodIn_r _ [87, 88, 11, 12, 36, 89, 90, 91, 22, 92, 93, 94, 95, 96, 5, 97, 605, 606, 607, 608, 609, 610, 611, 612, 613, 614, 615, 616] (by decide +kernel) (by decide +kernel)
set_option maxRecDepth 20000 in
theorem gL_law_X5_init : GoodIn wsL_law (wsX5_init) := ggL_law_X5_init
set_option maxRecDepth 20000 in
theorem ggL_law_X4_set : GoodIn wsL_law wsX4_set := goodIn_r _ [101, 102, 103, 104, 20, 16, 105, 106, 107, 2, 108, 109, 110, 111, 19, 112, 67, 68, 69, 113, 55, 56, 57, 114, 115, 116, 15, 117, 37, 38, 39, 40, 41, 42, 43, 44, 45, 46, 47, 48, 49, 50, 51, 52, 53, 54, 58, 59, 60, 61, 599, 600, 601, 602, 603, 604, 617, 618, 619, 620, 621, 622, 623, 624, 625, 626, 627, 628, 629, 630, 631, 632, 633, 634] (by decide +kernel) (by decide +kernel)
set_option maxRecDepth 20000 in
theorem gL_law_X4_set : GoodIn wsL_law (wsV RL 13 RX4 yX4_set wsX4_set) := goodIn_app (goodIn_of _ (by decide +kernel)) ggL_law_X4_set
set_option maxRecDepth 20000 in
theorem ggL_law_X5_set : GoodIn wsL_law wsX5_set := goodIn_r _ [121, 89, 122, 123, 5, 124, 125, 126, 127, 128, 129, 130, 131, 132, 90, 133, 134, 135, 605, 606, 607, 608, 609, 610, 611, 612, 613, 614, 615, 616] (by decide +kernel) (by decide +kernel)
set_option maxRecDepth 20000 in
theorem gL_law_X5_set : GoodIn wsL_law (wsV RL 17 RX5 yX5_set wsX5_set) := goodIn_app (goodIn_of _ (by decide +kernel)) ggL_law_X5_set
set_option maxRecDepth 20000 in
theorem ggL_law_X4_add : GoodIn wsL_law wsX4_add := goodIn_r _ [139, 16, 140, 20, 106, 107, 2, 108, 109, 110, 111, 19, 112, 67, 68, 69, 113, 55, 56, 57, 114, 115, 116, 15, 117, 37, 38, 39, 40, 41, 42, 43, 44, 45, 46, 47, 48, 49, 50, 51, 52, 53, 54, 58, 59, 60, 61, 141, 142, 143, 144, 599, 600, 601, 602, 603, 604, 617, 618, 619, 620, 621, 622, 623, 624, 625, 626, 627, 628, 629, 630, 631, 632, 633, 634] (by decide +kernel) (by decide +kernel)
set_option maxRecDepth 20000 in
theorem gL_law_X4_add : GoodIn wsL_law (wsV RL 18 RX4 yX4_add wsX4_add) := goodIn_app (goodIn_of _ (by decide +kernel)) ggL_law_X4_add
set_option maxRecDepth 20000 in
theorem ggL_law_X5_add : GoodIn wsL_law wsX5_add := goodIn_r _ [148, 89, 125, 126, 5, 127, 128, 129, 130, 131, 132, 90, 133, 134, 135, 605, 606, 607, 608, 609, 610, 611, 612, 613, 614, 615, 616] (by decide +kernel) (by decide +kernel)
set_option maxRecDepth 20000 in
theorem gL_law_X5_add : GoodIn wsL_law (wsV RL 21 RX5 yX5_add wsX5_add) := goodIn_app (goodIn_of _ (by decide +kernel)) ggL_law_X5_add
set_option maxRecDepth 20000 in
theorem ggL_law_X4_worth : GoodIn wsL_law wsX4_worth := goodIn_r _ [152, 16, 20, 153, 154, 155, 156, 15, 157, 38, 106, 107, 2, 108, 109, 110, 111, 19, 112, 67, 68, 69, 113, 55, 56, 57, 114, 115, 116, 117, 37, 39, 40, 41, 42, 43, 44, 45, 46, 47, 48, 49, 50, 51, 52, 53, 54, 58, 59, 60, 61, 599, 600, 601, 602, 603, 604, 617, 618, 619, 620, 621, 622, 623, 624, 625, 626, 627, 628, 629, 630, 631, 632, 633, 634] (by decide +kernel) (by decide +kernel)
set_option maxRecDepth 20000 in
theorem gL_law_X4_worth : GoodIn wsL_law (wsV RL 22 RX4 yX4_worth wsX4_worth) := goodIn_app (goodIn_of _ (by decide +kernel)) ggL_law_X4_worth
set_option maxRecDepth 20000 in
theorem ggL_law_X5_worth : GoodIn wsL_law wsX5_worth := goodIn_r _ [161, 89, 162, 163, 164, 5, 165, 125, 126, 127, 128, 129, 130, 131, 132, 90, 133, 134, 135, 166, 167, 168, 169, 605, 606, 607, 608, 609, 610, 611, 612, 613, 614, 615, 616] (by decide +kernel) (by decide +kernel)
set_option maxRecDepth 20000 in
theorem gL_law_X5_worth : GoodIn wsL_law (wsV RL 25 RX5 yX5_worth wsX5_worth) := goodIn_app (goodIn_of _ (by decide +kernel)) ggL_law_X5_worth
set_option maxRecDepth 20000 in
theorem ggL_law_X4_offer : GoodIn wsL_law wsX4_offer := goodIn_r _ [173, 20, 16, 174, 175, 176, 2, 177, 178, 179, 180, 106, 107, 108, 154, 155, 156, 15, 157, 38, 109, 110, 111, 19, 112, 67, 68, 69, 113, 55, 56, 57, 114, 115, 116, 117, 37, 39, 40, 41, 42, 43, 44, 45, 46, 47, 48, 49, 50, 51, 52, 53, 54, 58, 59, 60, 61, 181, 182, 183, 184, 185, 186, 187, 188, 189, 190, 191, 192, 193, 194, 195, 196, 197, 198, 199, 200, 201, 202, 203, 204, 205, 206, 207, 208, 209, 210, 211, 212, 213, 214, 215, 216, 217, 218, 219, 220, 221, 222, 223, 224, 225, 226, 227, 228, 229, 230, 231, 232, 233, 234, 599, 600, 601, 602, 603, 604, 617, 618, 619, 620, 621, 622, 623, 624, 625, 626, 627, 628, 629, 630, 631, 632, 633, 634] (by decide +kernel) (by decide +kernel)
set_option maxRecDepth 20000 in
theorem gL_law_X4_offer : GoodIn wsL_law (wsV RL 26 RX4 yX4_offer wsX4_offer) := goodIn_app (goodIn_of _ (by decide +kernel)) ggL_law_X4_offer
set_option maxRecDepth 20000 in
theorem ggL_law_X5_offer : GoodIn wsL_law wsX5_offer := goodIn_r _ [238, 239, 240, 241, 5, 242, 243, 244, 245, 125, 126, 127, 162, 163, 164, 165, 89, 128, 129, 130, 131, 132, 90, 133, 134, 135, 246, 247, 248, 249, 250, 251, 252, 253, 254, 255, 256, 257, 258, 259, 260, 261, 166, 167, 168, 169, 262, 263, 264, 265, 266, 267, 268, 269, 270, 271, 272, 273, 274, 275, 276, 277, 278, 279, 280, 281, 282, 283, 284, 285, 94, 95, 96, 97, 286, 287, 288, 289, 290, 291, 292, 293, 605, 606, 607, 608, 609, 610, 611, 612, 613, 614, 615, 616] (by decide +kernel) (by decide +kernel)
set_option maxRecDepth 20000 in
theorem gL_law_X5_offer : GoodIn wsL_law (wsV RL 30 RX5 yX5_offer wsX5_offer) := goodIn_app (goodIn_of _ (by decide +kernel)) ggL_law_X5_offer
set_option maxRecDepth 20000 in
theorem ggL_law_X4_pay : GoodIn wsL_law wsX4_pay := goodIn_r _ [297, 16, 298, 20, 299, 178, 179, 2, 180, 106, 107, 108, 109, 110, 111, 19, 112, 67, 68, 69, 113, 55, 56, 57, 114, 115, 116, 15, 117, 37, 38, 39, 40, 41, 42, 43, 44, 45, 46, 47, 48, 49, 50, 51, 52, 53, 54, 58, 59, 60, 61, 599, 600, 601, 602, 603, 604, 617, 618, 619, 620, 621, 622, 623, 624, 625, 626, 627, 628, 629, 630, 631, 632, 633, 634] (by decide +kernel) (by decide +kernel)
set_option maxRecDepth 20000 in
theorem gL_law_X4_pay : GoodIn wsL_law (wsV RL 31 RX4 yX4_pay wsX4_pay) := goodIn_app (goodIn_of _ (by decide +kernel)) ggL_law_X4_pay
set_option maxRecDepth 20000 in
theorem ggL_law_X5_pay : GoodIn wsL_law wsX5_pay := goodIn_r _ [303, 243, 244, 5, 245, 125, 126, 127, 258, 259, 260, 261, 89, 128, 129, 130, 131, 132, 90, 133, 134, 135, 94, 95, 96, 97, 605, 606, 607, 608, 609, 610, 611, 612, 613, 614, 615, 616] (by decide +kernel) (by decide +kernel)
set_option maxRecDepth 20000 in
theorem gL_law_X5_pay : GoodIn wsL_law (wsV RL 34 RX5 yX5_pay wsX5_pay) := goodIn_app (goodIn_of _ (by decide +kernel)) ggL_law_X5_pay
set_option maxRecDepth 20000 in
theorem ggL_law_X4_endTerm : GoodIn wsL_law wsX4_endTerm := goodIn_r _ [307, 20, 16, 308, 109, 110, 111, 19, 112, 67, 68, 69, 113, 55, 56, 57, 114, 115, 116, 15, 117, 37, 38, 39, 40, 41, 42, 43, 44, 45, 46, 47, 48, 49, 50, 51, 52, 2, 53, 54, 58, 59, 60, 61, 309, 310, 311, 312, 313, 314, 315, 230, 599, 600, 601, 602, 603, 604, 617, 618, 619, 620, 621, 622, 623, 624, 625, 626, 627, 628, 629, 630, 631, 632, 633, 634] (by decide +kernel) (by decide +kernel)
set_option maxRecDepth 20000 in
theorem gL_law_X4_endTerm : GoodIn wsL_law (wsV RL 35 RX4 yX4_endTerm wsX4_endTerm) := goodIn_app (goodIn_of _ (by decide +kernel)) ggL_law_X4_endTerm
set_option maxRecDepth 20000 in
theorem ggL_law_X5_endTerm : GoodIn wsL_law wsX5_endTerm := goodIn_r _ [319, 89, 128, 129, 130, 5, 131, 132, 90, 133, 134, 135, 94, 95, 96, 97, 258, 259, 260, 261, 605, 606, 607, 608, 609, 610, 611, 612, 613, 614, 615, 616] (by decide +kernel) (by decide +kernel)
set_option maxRecDepth 20000 in
theorem gL_law_X5_endTerm : GoodIn wsL_law (wsV RL 39 RX5 yX5_endTerm wsX5_endTerm) := goodIn_app (goodIn_of _ (by decide +kernel)) ggL_law_X5_endTerm
set_option maxRecDepth 20000 in
theorem ggL_law_X4_read : GoodIn wsL_law wsX4_read := goodIn_r _ [323, 20, 16, 31, 27, 324, 325, 326, 327, 328, 2, 329, 330, 331, 332, 30, 333, 80, 84, 334, 335, 336, 337, 83, 338, 339, 340, 341, 81, 342, 343, 344, 107, 108, 345, 346, 347, 348, 349, 350, 351, 352, 82, 353, 354, 355, 356, 357, 358, 359, 360, 361, 362, 363, 364, 365, 366, 367, 368, 369, 370, 371, 372, 109, 110, 111, 19, 112, 67, 68, 69, 113, 55, 56, 57, 114, 115, 116, 15, 117, 37, 38, 39, 40, 41, 42, 43, 44, 45, 46, 47, 48, 49, 50, 51, 52, 53, 54, 58, 59, 60, 61, 373, 374, 375, 376, 377, 378, 379, 380, 154, 155, 156, 157, 181, 182, 183, 184, 185, 186, 187, 188, 189, 190, 191, 192, 193, 194, 195, 196, 197, 198, 199, 200, 201, 202, 203, 204, 205, 206, 207, 208, 209, 210, 211, 212, 213, 214, 215, 216, 217, 218, 219, 220, 221, 222, 223, 224, 225, 226, 227, 228, 229, 230, 231, 232, 233, 234, 599, 600, 601, 602, 603, 604, 635, 636, 637, 638, 639, 640, 641, 632, 633, 634, 617, 618, 619, 620, 621, 622, 623, 624, 625, 626, 627, 628, 629, 630, 631] (by decide +kernel) (by decide +kernel)
set_option maxRecDepth 20000 in
theorem gL_law_X4_read : GoodIn wsL_law (wsV RL 40 RX4 yX4_read wsX4_read) := goodIn_app (goodIn_of _ (by decide +kernel)) ggL_law_X4_read
set_option maxRecDepth 20000 in
theorem ggL_law_X5_read : GoodIn wsL_law wsX5_read := goodIn_r _ [384, 385, 386, 387, 388, 5, 389, 390, 391, 392, 393, 394, 395, 396, 397, 398, 399, 400, 401, 402, 93, 403, 404, 405, 406, 125, 126, 127, 407, 408, 409, 410, 411, 412, 413, 414, 162, 163, 164, 165, 89, 246, 247, 248, 249, 250, 251, 252, 253, 254, 255, 256, 257, 258, 259, 260, 261, 166, 167, 168, 169, 262, 263, 264, 265, 266, 267, 268, 269, 270, 271, 272, 273, 274, 275, 276, 277, 278, 279, 280, 281, 282, 283, 284, 285, 94, 95, 96, 97, 286, 287, 288, 289, 290, 291, 292, 293, 128, 129, 130, 131, 132, 90, 133, 134, 135, 605, 606, 607, 608, 609, 610, 611, 612, 613, 614, 615, 616] (by decide +kernel) (by decide +kernel)
set_option maxRecDepth 20000 in
theorem gL_law_X5_read : GoodIn wsL_law (wsV RL 43 RX5 yX5_read wsX5_read) := goodIn_app (goodIn_of _ (by decide +kernel)) ggL_law_X5_read
set_option maxRecDepth 20000 in
theorem ggL_law_X4_excuse : GoodIn wsL_law wsX4_excuse := goodIn_r _ [418, 16, 419, 153, 420, 154, 155, 156, 15, 157, 38, 421, 205, 206, 207, 42, 422, 423, 424, 425, 189, 190, 191, 192, 599, 600, 601, 602, 603, 604, 617, 618, 619, 620, 621, 622, 623, 624, 625, 626, 627, 628, 629, 630, 631] (by decide +kernel) (by decide +kernel)
set_option maxRecDepth 20000 in
theorem gL_law_X4_excuse : GoodIn wsL_law (wsV RL 44 RX4 yX4_excuse wsX4_excuse) := goodIn_app (goodIn_of _ (by decide +kernel)) ggL_law_X4_excuse
set_option maxRecDepth 20000 in
theorem ggL_law_X5_excuse : GoodIn wsL_law wsX5_excuse := goodIn_r _ [429, 162, 163, 164, 5, 165, 89, 125, 126, 127, 166, 167, 168, 169, 270, 271, 272, 273, 254, 255, 256, 257, 430, 431, 432, 433, 605, 606, 607, 608, 609, 610, 611, 612, 613, 614, 615, 616] (by decide +kernel) (by decide +kernel)
set_option maxRecDepth 20000 in
theorem gL_law_X5_excuse : GoodIn wsL_law (wsV RL 47 RX5 yX5_excuse wsX5_excuse) := goodIn_app (goodIn_of _ (by decide +kernel)) ggL_law_X5_excuse
set_option maxRecDepth 20000 in
theorem ggL_law_X4_pupil : GoodIn wsL_law wsX4_pupil := goodIn_r _ [437, 16, 438, 298, 439, 440, 441, 442, 299, 178, 179, 2, 180, 106, 107, 108, 443, 444, 445, 15, 446, 189, 190, 191, 192, 42, 447, 208, 209, 599, 600, 601, 602, 603, 604, 617, 618, 619, 620, 621, 622, 623, 624, 625, 626, 627, 628, 629, 630, 631] (by decide +kernel) (by decide +kernel)
set_option maxRecDepth 20000 in
theorem gL_law_X4_pupil : GoodIn wsL_law (wsV RL 48 RX4 yX4_pupil wsX4_pupil) := goodIn_app (goodIn_of _ (by decide +kernel)) ggL_law_X4_pupil
set_option maxRecDepth 20000 in
theorem ggL_law_X5_pupil : GoodIn wsL_law wsX5_pupil := goodIn_r _ [451, 243, 244, 5, 245, 125, 126, 127, 258, 259, 260, 261, 89, 452, 453, 454, 455, 254, 255, 256, 257, 278, 279, 280, 281, 605, 606, 607, 608, 609, 610, 611, 612, 613, 614, 615, 616] (by decide +kernel) (by decide +kernel)
set_option maxRecDepth 20000 in
theorem gL_law_X5_pupil : GoodIn wsL_law (wsV RL 51 RX5 yX5_pupil wsX5_pupil) := goodIn_app (goodIn_of _ (by decide +kernel)) ggL_law_X5_pupil
set_option maxRecDepth 20000 in
theorem ggL_law_X4_novelty : GoodIn wsL_law wsX4_novelty := goodIn_r _ [459, 16, 178, 179, 2, 180, 106, 107, 108, 154, 155, 156, 15, 157, 38, 460, 198, 199, 200, 37, 201, 202, 56, 203, 204, 205, 206, 207, 42, 208, 209, 210, 211, 212, 213, 599, 600, 601, 602, 603, 604, 617, 618, 619, 620, 621, 622, 623, 624, 625, 626, 627, 628, 629, 630, 631] (by decide +kernel) (by decide +kernel)
set_option maxRecDepth 20000 in
theorem gL_law_X4_novelty : GoodIn wsL_law (wsV RL 52 RX4 yX4_novelty wsX4_novelty) := goodIn_app (goodIn_of _ (by decide +kernel)) ggL_law_X4_novelty
set_option maxRecDepth 20000 in
theorem ggL_law_X5_novelty : GoodIn wsL_law wsX5_novelty := goodIn_r _ [464, 243, 244, 5, 245, 125, 126, 127, 162, 163, 164, 165, 89, 266, 267, 268, 269, 270, 271, 272, 273, 254, 255, 256, 257, 274, 275, 276, 277, 605, 606, 607, 608, 609, 610, 611, 612, 613, 614, 615, 616] (by decide +kernel) (by decide +kernel)
set_option maxRecDepth 20000 in
theorem gL_law_X5_novelty : GoodIn wsL_law (wsV RL 55 RX5 yX5_novelty wsX5_novelty) := goodIn_app (goodIn_of _ (by decide +kernel)) ggL_law_X5_novelty
set_option maxRecDepth 20000 in
theorem ggL_law_X4_why : GoodIn wsL_law wsX4_why := goodIn_r _ [468, 16, 174, 175, 176, 2, 177, 178, 179, 180, 106, 107, 108, 154, 155, 156, 15, 157, 38, 469, 186, 187, 188, 37, 48, 39, 43, 189, 190, 191, 192, 42, 193, 194, 195, 196, 40, 49, 197, 198, 199, 200, 201, 202, 56, 203, 204, 205, 206, 207, 208, 209, 210, 211, 212, 213, 214, 215, 216, 217, 599, 600, 601, 602, 603, 604, 617, 618, 619, 620, 621, 622, 623, 624, 625, 626, 627, 628, 629, 630, 631] (by decide +kernel) (by decide +kernel)
set_option maxRecDepth 20000 in
theorem gL_law_X4_why : GoodIn wsL_law (wsV RL 56 RX4 yX4_why wsX4_why) := goodIn_app (goodIn_of _ (by decide +kernel)) ggL_law_X4_why
set_option maxRecDepth 20000 in
theorem ggL_law_X5_why : GoodIn wsL_law wsX5_why := goodIn_r _ [473, 239, 240, 241, 5, 242, 243, 244, 245, 125, 126, 127, 162, 163, 164, 165, 89, 250, 251, 252, 253, 254, 255, 256, 257, 258, 259, 260, 261, 166, 167, 168, 169, 262, 263, 264, 265, 266, 267, 268, 269, 270, 271, 272, 273, 274, 275, 276, 277, 278, 279, 280, 281, 282, 283, 284, 285, 605, 606, 607, 608, 609, 610, 611, 612, 613, 614, 615, 616] (by decide +kernel) (by decide +kernel)
set_option maxRecDepth 20000 in
theorem gL_law_X5_why : GoodIn wsL_law (wsV RL 59 RX5 yX5_why wsX5_why) := goodIn_app (goodIn_of _ (by decide +kernel)) ggL_law_X5_why
set_option maxRecDepth 20000 in
theorem ggL_law_X4_weight : GoodIn wsL_law wsX4_weight := goodIn_r _ [477, 16, 174, 175, 176, 2, 177, 178, 179, 180, 106, 107, 108, 154, 155, 156, 15, 157, 38, 478, 194, 195, 196, 40, 37, 49, 197, 198, 199, 200, 201, 202, 56, 203, 204, 205, 206, 207, 42, 208, 209, 210, 211, 212, 213, 214, 215, 216, 217, 43, 599, 600, 601, 602, 603, 604, 617, 618, 619, 620, 621, 622, 623, 624, 625, 626, 627, 628, 629, 630, 631] (by decide +kernel) (by decide +kernel)
set_option maxRecDepth 20000 in
theorem gL_law_X4_weight : GoodIn wsL_law (wsV RL 60 RX4 yX4_weight wsX4_weight) := goodIn_app (goodIn_of _ (by decide +kernel)) ggL_law_X4_weight
set_option maxRecDepth 20000 in
theorem ggL_law_X5_weight : GoodIn wsL_law wsX5_weight := goodIn_r _ [482, 239, 240, 241, 5, 242, 243, 244, 245, 125, 126, 127, 162, 163, 164, 165, 89, 262, 263, 264, 265, 166, 167, 168, 169, 266, 267, 268, 269, 270, 271, 272, 273, 254, 255, 256, 257, 274, 275, 276, 277, 278, 279, 280, 281, 282, 283, 284, 285, 258, 259, 260, 261, 605, 606, 607, 608, 609, 610, 611, 612, 613, 614, 615, 616] (by decide +kernel) (by decide +kernel)
set_option maxRecDepth 20000 in
theorem gL_law_X5_weight : GoodIn wsL_law (wsV RL 63 RX5 yX5_weight wsX5_weight) := goodIn_app (goodIn_of _ (by decide +kernel)) ggL_law_X5_weight
set_option maxRecDepth 20000 in
theorem ggL_law_X4_count : GoodIn wsL_law wsX4_count := goodIn_r _ [486, 102, 16, 105, 140, 439, 487, 298, 299, 488, 438, 442, 27, 324, 20, 489, 106, 107, 2, 108, 309, 310, 311, 490, 491, 492, 15, 493, 38, 494, 495, 496, 497, 197, 198, 199, 200, 37, 201, 202, 56, 203, 204, 205, 206, 207, 42, 208, 209, 210, 211, 212, 213, 599, 600, 601, 602, 603, 604, 617, 618, 619, 620, 621, 622, 623, 624, 625, 626, 627, 628, 629, 630, 631, 635, 636, 632, 633, 634] (by decide +kernel) (by decide +kernel)
set_option maxRecDepth 20000 in
theorem gL_law_X4_count : GoodIn wsL_law (wsV RL 64 RX4 yX4_count wsX4_count) := goodIn_app (goodIn_of _ (by decide +kernel)) ggL_law_X4_count
set_option maxRecDepth 20000 in
theorem ggL_law_X5_count : GoodIn wsL_law wsX5_count := goodIn_r _ [501, 89, 385, 132, 502, 503, 504, 5, 505, 258, 259, 260, 261, 506, 507, 508, 509, 510, 511, 512, 513, 266, 267, 268, 269, 270, 271, 272, 273, 254, 255, 256, 257, 274, 275, 276, 277, 605, 606, 607, 608, 609, 610, 611, 612, 613, 614, 615, 616] (by decide +kernel) (by decide +kernel)
set_option maxRecDepth 20000 in
theorem gL_law_X5_count : GoodIn wsL_law (wsV RL 68 RX5 yX5_count wsX5_count) := goodIn_app (goodIn_of _ (by decide +kernel)) ggL_law_X5_count
set_option maxRecDepth 20000 in
theorem ggL_law_X4_bestExcuse : GoodIn wsL_law wsX4_bestExcuse := goodIn_r _ [517, 16, 140, 178, 179, 2, 180, 106, 107, 108, 469, 186, 187, 15, 188, 37, 48, 39, 43, 189, 190, 191, 192, 42, 193, 194, 195, 196, 40, 49, 197, 198, 199, 200, 201, 202, 56, 203, 204, 205, 206, 207, 208, 209, 210, 211, 212, 213, 214, 215, 216, 217, 478, 599, 600, 601, 602, 603, 604, 617, 618, 619, 620, 621, 622, 623, 624, 625, 626, 627, 628, 629, 630, 631] (by decide +kernel) (by decide +kernel)
set_option maxRecDepth 20000 in
theorem gL_law_X4_bestExcuse : GoodIn wsL_law (wsV RL 69 RX4 yX4_bestExcuse wsX4_bestExcuse) := goodIn_app (goodIn_of _ (by decide +kernel)) ggL_law_X4_bestExcuse
set_option maxRecDepth 20000 in
theorem ggL_law_X5_bestExcuse : GoodIn wsL_law wsX5_bestExcuse := goodIn_r _ [521, 89, 243, 244, 5, 245, 125, 126, 127, 250, 251, 252, 253, 254, 255, 256, 257, 258, 259, 260, 261, 166, 167, 168, 169, 262, 263, 264, 265, 266, 267, 268, 269, 270, 271, 272, 273, 274, 275, 276, 277, 278, 279, 280, 281, 282, 283, 284, 285, 605, 606, 607, 608, 609, 610, 611, 612, 613, 614, 615, 616] (by decide +kernel) (by decide +kernel)
set_option maxRecDepth 20000 in
theorem gL_law_X5_bestExcuse : GoodIn wsL_law (wsV RL 72 RX5 yX5_bestExcuse wsX5_bestExcuse) := goodIn_app (goodIn_of _ (by decide +kernel)) ggL_law_X5_bestExcuse
set_option maxRecDepth 20000 in
theorem ggL_law_X4_bestWitness : GoodIn wsL_law wsX4_bestWitness := goodIn_r _ [525, 16, 438, 178, 179, 2, 180, 106, 107, 108, 154, 155, 156, 15, 157, 38, 478, 194, 195, 196, 40, 37, 49, 197, 198, 199, 200, 201, 202, 56, 203, 204, 205, 206, 207, 42, 208, 209, 210, 211, 212, 213, 214, 215, 216, 217, 43, 599, 600, 601, 602, 603, 604, 617, 618, 619, 620, 621, 622, 623, 624, 625, 626, 627, 628, 629, 630, 631] (by decide +kernel) (by decide +kernel)
set_option maxRecDepth 20000 in
theorem gL_law_X4_bestWitness : GoodIn wsL_law (wsV RL 73 RX4 yX4_bestWitness wsX4_bestWitness) := goodIn_app (goodIn_of _ (by decide +kernel)) ggL_law_X4_bestWitness
set_option maxRecDepth 20000 in
theorem ggL_law_X5_bestWitness : GoodIn wsL_law wsX5_bestWitness := goodIn_r _ [529, 243, 244, 5, 245, 125, 126, 127, 162, 163, 164, 165, 89, 258, 259, 260, 261, 282, 283, 284, 285, 605, 606, 607, 608, 609, 610, 611, 612, 613, 614, 615, 616] (by decide +kernel) (by decide +kernel)
set_option maxRecDepth 20000 in
theorem gL_law_X5_bestWitness : GoodIn wsL_law (wsV RL 77 RX5 yX5_bestWitness wsX5_bestWitness) := goodIn_app (goodIn_of _ (by decide +kernel)) ggL_law_X5_bestWitness
set_option maxRecDepth 20000 in
theorem ggL_law_X4_mostMinutes : GoodIn wsL_law wsX4_mostMinutes := goodIn_r _ [533, 16, 178, 179, 2, 180, 106, 107, 108, 154, 155, 156, 15, 157, 38, 469, 186, 187, 188, 37, 48, 39, 43, 189, 190, 191, 192, 42, 193, 194, 195, 196, 40, 49, 197, 198, 199, 200, 201, 202, 56, 203, 204, 205, 206, 207, 208, 209, 210, 211, 212, 213, 214, 215, 216, 217, 599, 600, 601, 602, 603, 604, 617, 618, 619, 620, 621, 622, 623, 624, 625, 626, 627, 628, 629, 630, 631] (by decide +kernel) (by decide +kernel)
set_option maxRecDepth 20000 in
theorem gL_law_X4_mostMinutes : GoodIn wsL_law (wsV RL 78 RX4 yX4_mostMinutes wsX4_mostMinutes) := goodIn_app (goodIn_of _ (by decide +kernel)) ggL_law_X4_mostMinutes
set_option maxRecDepth 20000 in
theorem ggL_law_X5_mostMinutes : GoodIn wsL_law wsX5_mostMinutes := goodIn_r _ [537, 243, 244, 5, 245, 125, 126, 127, 162, 163, 164, 165, 89, 250, 251, 252, 253, 254, 255, 256, 257, 258, 259, 260, 261, 166, 167, 168, 169, 262, 263, 264, 265, 266, 267, 268, 269, 270, 271, 272, 273, 274, 275, 276, 277, 278, 279, 280, 281, 282, 283, 284, 285, 605, 606, 607, 608, 609, 610, 611, 612, 613, 614, 615, 616] (by decide +kernel) (by decide +kernel)
set_option maxRecDepth 20000 in
theorem gL_law_X5_mostMinutes : GoodIn wsL_law (wsV RL 81 RX5 yX5_mostMinutes wsX5_mostMinutes) := goodIn_app (goodIn_of _ (by decide +kernel)) ggL_law_X5_mostMinutes
set_option maxRecDepth 20000 in
theorem ggL_law_X4_put : GoodIn wsL_law wsX4_put := goodIn_r _ [541, 27, 324, 542, 543, 2, 544, 545, 546, 547, 106, 107, 108, 548, 549, 550, 26, 551, 76, 75, 599, 600, 601, 602, 603, 604, 635, 636] (by decide +kernel) (by decide +kernel)
set_option maxRecDepth 20000 in
theorem gL_law_X4_put : GoodIn wsL_law (wsV RL 84 RX4 yX4_put wsX4_put) := goodIn_app (goodIn_of _ (by decide +kernel)) ggL_law_X4_put
set_option maxRecDepth 20000 in
theorem ggL_law_X5_put : GoodIn wsL_law wsX5_put := goodIn_r _ [555, 556, 385, 93, 125, 126, 5, 127, 605, 606, 607, 608, 609, 610, 611, 612, 613, 614, 615, 616] (by decide +kernel) (by decide +kernel)
set_option maxRecDepth 20000 in
theorem gL_law_X5_put : GoodIn wsL_law (wsV RL 88 RX5 yX5_put wsX5_put) := goodIn_app (goodIn_of _ (by decide +kernel)) ggL_law_X5_put
set_option maxRecDepth 20000 in
theorem ggL_law_X4_wipe : GoodIn wsL_law wsX4_wipe := goodIn_r _ [560, 27, 324, 599, 600, 601, 602, 603, 604, 635, 636] (by decide +kernel) (by decide +kernel)
set_option maxRecDepth 20000 in
theorem gL_law_X4_wipe : GoodIn wsL_law (wsV RL 89 RX4 yX4_wipe wsX4_wipe) := goodIn_app (goodIn_of _ (by decide +kernel)) ggL_law_X4_wipe
set_option maxRecDepth 20000 in
theorem ggL_law_X5_wipe : GoodIn wsL_law wsX5_wipe := goodIn_r _ [564, 385, 605, 606, 607, 608, 609, 610, 611, 612, 613, 614, 615, 616] (by decide +kernel) (by decide +kernel)
set_option maxRecDepth 20000 in
theorem gL_law_X5_wipe : GoodIn wsL_law (wsV RL 92 RX5 yX5_wipe wsX5_wipe) := goodIn_app (goodIn_of _ (by decide +kernel)) ggL_law_X5_wipe
set_option maxRecDepth 20000 in
theorem ggL_law_X4_fault : GoodIn wsL_law wsX4_fault := goodIn_r _ [329, 31, 27, 324, 325, 330, 331, 332, 30, 333, 80, 84, 334, 335, 336, 337, 83, 338, 339, 340, 341, 81, 342, 343, 344, 107, 2, 108, 345, 346, 347, 348, 349, 350, 351, 352, 82, 353, 354, 355, 356, 357, 358, 359, 360, 361, 362, 363, 364, 365, 366, 367, 368, 369, 370, 371, 372, 599, 600, 601, 602, 603, 604, 635, 636, 637, 638, 639, 640, 641] (by decide +kernel) (by decide +kernel)
set_option maxRecDepth 20000 in
theorem gL_law_X4_fault : GoodIn wsL_law (wsV RL 93 RX4 yX4_fault wsX4_fault) := goodIn_app (goodIn_of _ (by decide +kernel)) ggL_law_X4_fault
set_option maxRecDepth 20000 in
theorem ggL_law_X5_fault : GoodIn wsL_law wsX5_fault := goodIn_r _ [569, 390, 386, 387, 388, 5, 389, 391, 392, 393, 394, 385, 395, 396, 397, 398, 399, 400, 401, 402, 93, 403, 404, 405, 406, 125, 126, 127, 407, 408, 409, 410, 411, 412, 413, 414, 162, 163, 164, 165, 89, 246, 247, 248, 249, 250, 251, 252, 253, 254, 255, 256, 257, 258, 259, 260, 261, 166, 167, 168, 169, 262, 263, 264, 265, 266, 267, 268, 269, 270, 271, 272, 273, 274, 275, 276, 277, 278, 279, 280, 281, 282, 283, 284, 285, 94, 95, 96, 97, 286, 287, 288, 289, 290, 291, 292, 293, 605, 606, 607, 608, 609, 610, 611, 612, 613, 614, 615, 616] (by decide +kernel) (by decide +kernel)
set_option maxRecDepth 20000 in
theorem gL_law_X5_fault : GoodIn wsL_law (wsV RL 96 RX5 yX5_fault wsX5_fault) := goodIn_app (goodIn_of _ (by decide +kernel)) ggL_law_X5_fault
set_option maxRecDepth 20000 in
theorem ggL_law_X4_undo : GoodIn wsL_law wsX4_undo := goodIn_r _ [573, 20, 489, 16, 574, 575, 576, 19, 577, 68, 69, 67, 114, 115, 116, 15, 117, 37, 38, 39, 40, 41, 42, 43, 44, 45, 46, 47, 48, 49, 50, 51, 52, 2, 53, 54, 55, 56, 57, 58, 59, 60, 61, 599, 600, 601, 602, 603, 604, 632, 633, 634, 617, 618, 619, 620, 621, 622, 623, 624, 625, 626, 627, 628, 629, 630, 631] (by decide +kernel) (by decide +kernel)
set_option maxRecDepth 20000 in
theorem gL_law_X4_undo : GoodIn wsL_law (wsV RL 97 RX4 yX4_undo wsX4_undo) := goodIn_app (goodIn_of _ (by decide +kernel)) ggL_law_X4_undo
set_option maxRecDepth 20000 in
theorem ggL_law_X5_undo : GoodIn wsL_law wsX5_undo := goodIn_r _ [581, 132, 90, 89, 133, 134, 5, 135, 605, 606, 607, 608, 609, 610, 611, 612, 613, 614, 615, 616] (by decide +kernel) (by decide +kernel)
set_option maxRecDepth 20000 in
theorem gL_law_X5_undo : GoodIn wsL_law (wsV RL 100 RX5 yX5_undo wsX5_undo) := goodIn_app (goodIn_of _ (by decide +kernel)) ggL_law_X5_undo
set_option maxRecDepth 20000 in
theorem ggL_law_X4_save : GoodIn wsL_law wsX4_save := goodIn_r _ [585, 21, 16, 23, 488, 106, 107, 2, 108, 586, 115, 116, 15, 117, 37, 38, 39, 40, 41, 42, 43, 44, 45, 46, 47, 48, 49, 50, 51, 52, 53, 54, 55, 56, 57, 58, 59, 60, 61, 599, 600, 601, 602, 603, 604, 617, 618, 619, 620, 621, 622, 623, 624, 625, 626, 627, 628, 629, 630, 631] (by decide +kernel) (by decide +kernel)
set_option maxRecDepth 20000 in
theorem gL_law_X4_save : GoodIn wsL_law (wsV RL 101 RX4 yX4_save wsX4_save) := goodIn_app (goodIn_of _ (by decide +kernel)) ggL_law_X4_save
set_option maxRecDepth 20000 in
theorem ggL_law_X5_save : GoodIn wsL_law wsX5_save := goodIn_r _ [590, 89, 91, 92, 125, 126, 5, 127, 133, 134, 135, 605, 606, 607, 608, 609, 610, 611, 612, 613, 614, 615, 616] (by decide +kernel) (by decide +kernel)
set_option maxRecDepth 20000 in
theorem gL_law_X5_save : GoodIn wsL_law (wsV RL 104 RX5 yX5_save wsX5_save) := goodIn_app (goodIn_of _ (by decide +kernel)) ggL_law_X5_save
set_option maxRecDepth 20000 in
theorem ggL_law_X4_restore : GoodIn wsL_law wsX4_restore := goodIn_r _ [594, 23, 20, 16, 21, 488, 106, 107, 2, 108, 109, 110, 111, 19, 112, 67, 68, 69, 113, 55, 56, 57, 114, 115, 116, 15, 117, 37, 38, 39, 40, 41, 42, 43, 44, 45, 46, 47, 48, 49, 50, 51, 52, 53, 54, 58, 59, 60, 61, 586, 599, 600, 601, 602, 603, 604, 617, 618, 619, 620, 621, 622, 623, 624, 625, 626, 627, 628, 629, 630, 631, 632, 633, 634] (by decide +kernel) (by decide +kernel)
set_option maxRecDepth 20000 in
theorem gL_law_X4_restore : GoodIn wsL_law (wsV RL 105 RX4 yX4_restore wsX4_restore) := goodIn_app (goodIn_of _ (by decide +kernel)) ggL_law_X4_restore
set_option maxRecDepth 20000 in
theorem ggL_law_X5_restore : GoodIn wsL_law wsX5_restore := goodIn_r _ [598, 92, 91, 89, 125, 126, 5, 127, 128, 129, 130, 131, 132, 90, 133, 134, 135, 605, 606, 607, 608, 609, 610, 611, 612, 613, 614, 615, 616] (by decide +kernel) (by decide +kernel)
set_option maxRecDepth 20000 in
theorem gL_law_X5_restore : GoodIn wsL_law (wsV RL 108 RX5 yX5_restore wsX5_restore) := goodIn_app (goodIn_of _ (by decide +kernel)) ggL_law_X5_restore
theorem dL_law_0 : decode cL_law 0 = .ok (.new 7, 3) := by decide +kernel
theorem dL_law_3 : decode cL_law 3 = .ok (.dup, 1) := by decide +kernel
theorem dL_law_4 : decode cL_law 4 = .ok (.invokespecial 9, 3) := by decide +kernel
theorem dL_law_7 : decode cL_law 7 = .ok (.astore_n 1, 1) := by decide +kernel
theorem dL_law_8 : decode cL_law 8 = .ok (.new 10, 3) := by decide +kernel
theorem dL_law_11 : decode cL_law 11 = .ok (.dup, 1) := by decide +kernel
theorem dL_law_12 : decode cL_law 12 = .ok (.invokespecial 12, 3) := by decide +kernel
theorem dL_law_15 : decode cL_law 15 = .ok (.astore_n 2, 1) := by decide +kernel
theorem dL_law_16 : decode cL_law 16 = .ok (.iconst 0, 1) := by decide +kernel
theorem dL_law_17 : decode cL_law 17 = .ok (.istore_n 3, 1) := by decide +kernel
theorem dL_law_18 : decode cL_law 18 = .ok (.iload_n 3, 1) := by decide +kernel
theorem dL_law_19 : decode cL_law 19 = .ok (.aload_n 0, 1) := by decide +kernel
theorem dL_law_20 : decode cL_law 20 = .ok (.arraylength, 1) := by decide +kernel
theorem dL_law_21 : decode cL_law 21 = .ok (.iconst 5, 1) := by decide +kernel
theorem dL_law_22 : decode cL_law 22 = .ok (.isub, 1) := by decide +kernel
theorem dL_law_23 : decode cL_law 23 = .ok (.if_icmp .gt 805, 3) := by decide +kernel
theorem dL_law_26 : decode cL_law 26 = .ok (.aload_n 0, 1) := by decide +kernel
theorem dL_law_27 : decode cL_law 27 = .ok (.iload_n 3, 1) := by decide +kernel
theorem dL_law_28 : decode cL_law 28 = .ok (.iaload, 1) := by decide +kernel
theorem dL_law_29 : decode cL_law 29 = .ok (.bipush 31, 2) := by decide +kernel
theorem dL_law_31 : decode cL_law 31 = .ok (.iand, 1) := by decide +kernel
theorem dL_law_32 : decode cL_law 32 = .ok (.tableswitch 790 0 21 #[104, 137, 170, 203, 256, 289, 302, 315, 348, 381, 414, 467, 520, 543, 576, 619, 652, 705, 718, 731, 744, 767], 104) := by decide +kernel
theorem dL_law_136 : decode cL_law 136 = .ok (.aload_n 1, 1) := by decide +kernel
theorem dL_law_137 : decode cL_law 137 = .ok (.aload_n 0, 1) := by decide +kernel
theorem dL_law_138 : decode cL_law 138 = .ok (.iload_n 3, 1) := by decide +kernel
theorem dL_law_139 : decode cL_law 139 = .ok (.iconst 1, 1) := by decide +kernel
theorem dL_law_140 : decode cL_law 140 = .ok (.iadd, 1) := by decide +kernel
theorem dL_law_141 : decode cL_law 141 = .ok (.iaload, 1) := by decide +kernel
theorem dL_law_142 : decode cL_law 142 = .ok (.aload_n 0, 1) := by decide +kernel
theorem dL_law_143 : decode cL_law 143 = .ok (.iload_n 3, 1) := by decide +kernel
theorem dL_law_144 : decode cL_law 144 = .ok (.iconst 2, 1) := by decide +kernel
theorem dL_law_145 : decode cL_law 145 = .ok (.iadd, 1) := by decide +kernel
theorem dL_law_146 : decode cL_law 146 = .ok (.iaload, 1) := by decide +kernel
theorem dL_law_147 : decode cL_law 147 = .ok (.invokevirtual 13, 3) := by decide +kernel
theorem dL_law_150 : decode cL_law 150 = .ok (.aload_n 2, 1) := by decide +kernel
theorem dL_law_151 : decode cL_law 151 = .ok (.aload_n 0, 1) := by decide +kernel
theorem dL_law_152 : decode cL_law 152 = .ok (.iload_n 3, 1) := by decide +kernel
theorem dL_law_153 : decode cL_law 153 = .ok (.iconst 1, 1) := by decide +kernel
theorem dL_law_154 : decode cL_law 154 = .ok (.iadd, 1) := by decide +kernel
theorem dL_law_155 : decode cL_law 155 = .ok (.iaload, 1) := by decide +kernel
theorem dL_law_156 : decode cL_law 156 = .ok (.aload_n 0, 1) := by decide +kernel
theorem dL_law_157 : decode cL_law 157 = .ok (.iload_n 3, 1) := by decide +kernel
theorem dL_law_158 : decode cL_law 158 = .ok (.iconst 2, 1) := by decide +kernel
theorem dL_law_159 : decode cL_law 159 = .ok (.iadd, 1) := by decide +kernel
theorem dL_law_160 : decode cL_law 160 = .ok (.iaload, 1) := by decide +kernel
theorem dL_law_161 : decode cL_law 161 = .ok (.invokevirtual 17, 3) := by decide +kernel
theorem dL_law_164 : decode cL_law 164 = .ok (.if_icmp .eq 658, 3) := by decide +kernel
theorem dL_law_167 : decode cL_law 167 = .ok (.iconst 0, 1) := by decide +kernel
theorem dL_law_168 : decode cL_law 168 = .ok (.ireturn, 1) := by decide +kernel
theorem dL_law_169 : decode cL_law 169 = .ok (.aload_n 1, 1) := by decide +kernel
theorem dL_law_170 : decode cL_law 170 = .ok (.aload_n 0, 1) := by decide +kernel
theorem dL_law_171 : decode cL_law 171 = .ok (.iload_n 3, 1) := by decide +kernel
theorem dL_law_172 : decode cL_law 172 = .ok (.iconst 1, 1) := by decide +kernel
theorem dL_law_173 : decode cL_law 173 = .ok (.iadd, 1) := by decide +kernel
theorem dL_law_174 : decode cL_law 174 = .ok (.iaload, 1) := by decide +kernel
theorem dL_law_175 : decode cL_law 175 = .ok (.aload_n 0, 1) := by decide +kernel
theorem dL_law_176 : decode cL_law 176 = .ok (.iload_n 3, 1) := by decide +kernel
theorem dL_law_177 : decode cL_law 177 = .ok (.iconst 2, 1) := by decide +kernel
theorem dL_law_178 : decode cL_law 178 = .ok (.iadd, 1) := by decide +kernel
theorem dL_law_179 : decode cL_law 179 = .ok (.iaload, 1) := by decide +kernel
theorem dL_law_180 : decode cL_law 180 = .ok (.invokevirtual 18, 3) := by decide +kernel
theorem dL_law_183 : decode cL_law 183 = .ok (.aload_n 2, 1) := by decide +kernel
theorem dL_law_184 : decode cL_law 184 = .ok (.aload_n 0, 1) := by decide +kernel
theorem dL_law_185 : decode cL_law 185 = .ok (.iload_n 3, 1) := by decide +kernel
theorem dL_law_186 : decode cL_law 186 = .ok (.iconst 1, 1) := by decide +kernel
theorem dL_law_187 : decode cL_law 187 = .ok (.iadd, 1) := by decide +kernel
theorem dL_law_188 : decode cL_law 188 = .ok (.iaload, 1) := by decide +kernel
theorem dL_law_189 : decode cL_law 189 = .ok (.aload_n 0, 1) := by decide +kernel
theorem dL_law_190 : decode cL_law 190 = .ok (.iload_n 3, 1) := by decide +kernel
theorem dL_law_191 : decode cL_law 191 = .ok (.iconst 2, 1) := by decide +kernel
theorem dL_law_192 : decode cL_law 192 = .ok (.iadd, 1) := by decide +kernel
theorem dL_law_193 : decode cL_law 193 = .ok (.iaload, 1) := by decide +kernel
theorem dL_law_194 : decode cL_law 194 = .ok (.invokevirtual 21, 3) := by decide +kernel
theorem dL_law_197 : decode cL_law 197 = .ok (.if_icmp .eq 625, 3) := by decide +kernel
theorem dL_law_200 : decode cL_law 200 = .ok (.iconst 0, 1) := by decide +kernel
theorem dL_law_201 : decode cL_law 201 = .ok (.ireturn, 1) := by decide +kernel
theorem dL_law_202 : decode cL_law 202 = .ok (.aload_n 1, 1) := by decide +kernel
theorem dL_law_203 : decode cL_law 203 = .ok (.aload_n 0, 1) := by decide +kernel
theorem dL_law_204 : decode cL_law 204 = .ok (.iload_n 3, 1) := by decide +kernel
theorem dL_law_205 : decode cL_law 205 = .ok (.iconst 1, 1) := by decide +kernel
theorem dL_law_206 : decode cL_law 206 = .ok (.iadd, 1) := by decide +kernel
theorem dL_law_207 : decode cL_law 207 = .ok (.iaload, 1) := by decide +kernel
theorem dL_law_208 : decode cL_law 208 = .ok (.aload_n 0, 1) := by decide +kernel
theorem dL_law_209 : decode cL_law 209 = .ok (.iload_n 3, 1) := by decide +kernel
theorem dL_law_210 : decode cL_law 210 = .ok (.iconst 2, 1) := by decide +kernel
theorem dL_law_211 : decode cL_law 211 = .ok (.iadd, 1) := by decide +kernel
theorem dL_law_212 : decode cL_law 212 = .ok (.iaload, 1) := by decide +kernel
theorem dL_law_213 : decode cL_law 213 = .ok (.invokevirtual 22, 3) := by decide +kernel
theorem dL_law_216 : decode cL_law 216 = .ok (.aload_n 2, 1) := by decide +kernel
theorem dL_law_217 : decode cL_law 217 = .ok (.aload_n 0, 1) := by decide +kernel
theorem dL_law_218 : decode cL_law 218 = .ok (.iload_n 3, 1) := by decide +kernel
theorem dL_law_219 : decode cL_law 219 = .ok (.iconst 1, 1) := by decide +kernel
theorem dL_law_220 : decode cL_law 220 = .ok (.iadd, 1) := by decide +kernel
theorem dL_law_221 : decode cL_law 221 = .ok (.iaload, 1) := by decide +kernel
theorem dL_law_222 : decode cL_law 222 = .ok (.aload_n 0, 1) := by decide +kernel
theorem dL_law_223 : decode cL_law 223 = .ok (.iload_n 3, 1) := by decide +kernel
theorem dL_law_224 : decode cL_law 224 = .ok (.iconst 2, 1) := by decide +kernel
theorem dL_law_225 : decode cL_law 225 = .ok (.iadd, 1) := by decide +kernel
theorem dL_law_226 : decode cL_law 226 = .ok (.iaload, 1) := by decide +kernel
theorem dL_law_227 : decode cL_law 227 = .ok (.invokevirtual 25, 3) := by decide +kernel
theorem dL_law_230 : decode cL_law 230 = .ok (.if_icmp .eq 592, 3) := by decide +kernel
theorem dL_law_233 : decode cL_law 233 = .ok (.iconst 0, 1) := by decide +kernel
theorem dL_law_234 : decode cL_law 234 = .ok (.ireturn, 1) := by decide +kernel
theorem dL_law_235 : decode cL_law 235 = .ok (.aload_n 1, 1) := by decide +kernel
theorem dL_law_236 : decode cL_law 236 = .ok (.aload_n 0, 1) := by decide +kernel
theorem dL_law_237 : decode cL_law 237 = .ok (.iload_n 3, 1) := by decide +kernel
theorem dL_law_238 : decode cL_law 238 = .ok (.iconst 1, 1) := by decide +kernel
theorem dL_law_239 : decode cL_law 239 = .ok (.iadd, 1) := by decide +kernel
theorem dL_law_240 : decode cL_law 240 = .ok (.iaload, 1) := by decide +kernel
theorem dL_law_241 : decode cL_law 241 = .ok (.aload_n 0, 1) := by decide +kernel
theorem dL_law_242 : decode cL_law 242 = .ok (.iload_n 3, 1) := by decide +kernel
theorem dL_law_243 : decode cL_law 243 = .ok (.iconst 2, 1) := by decide +kernel
theorem dL_law_244 : decode cL_law 244 = .ok (.iadd, 1) := by decide +kernel
theorem dL_law_245 : decode cL_law 245 = .ok (.iaload, 1) := by decide +kernel
theorem dL_law_246 : decode cL_law 246 = .ok (.aload_n 0, 1) := by decide +kernel
theorem dL_law_247 : decode cL_law 247 = .ok (.iload_n 3, 1) := by decide +kernel
theorem dL_law_248 : decode cL_law 248 = .ok (.iconst 3, 1) := by decide +kernel
theorem dL_law_249 : decode cL_law 249 = .ok (.iadd, 1) := by decide +kernel
theorem dL_law_250 : decode cL_law 250 = .ok (.iaload, 1) := by decide +kernel
theorem dL_law_251 : decode cL_law 251 = .ok (.aload_n 0, 1) := by decide +kernel
theorem dL_law_252 : decode cL_law 252 = .ok (.iload_n 3, 1) := by decide +kernel
theorem dL_law_253 : decode cL_law 253 = .ok (.iconst 4, 1) := by decide +kernel
theorem dL_law_254 : decode cL_law 254 = .ok (.iadd, 1) := by decide +kernel
theorem dL_law_255 : decode cL_law 255 = .ok (.iaload, 1) := by decide +kernel
theorem dL_law_256 : decode cL_law 256 = .ok (.invokevirtual 26, 3) := by decide +kernel
theorem dL_law_259 : decode cL_law 259 = .ok (.aload_n 2, 1) := by decide +kernel
theorem dL_law_260 : decode cL_law 260 = .ok (.aload_n 0, 1) := by decide +kernel
theorem dL_law_261 : decode cL_law 261 = .ok (.iload_n 3, 1) := by decide +kernel
theorem dL_law_262 : decode cL_law 262 = .ok (.iconst 1, 1) := by decide +kernel
theorem dL_law_263 : decode cL_law 263 = .ok (.iadd, 1) := by decide +kernel
theorem dL_law_264 : decode cL_law 264 = .ok (.iaload, 1) := by decide +kernel
theorem dL_law_265 : decode cL_law 265 = .ok (.aload_n 0, 1) := by decide +kernel
theorem dL_law_266 : decode cL_law 266 = .ok (.iload_n 3, 1) := by decide +kernel
theorem dL_law_267 : decode cL_law 267 = .ok (.iconst 2, 1) := by decide +kernel
theorem dL_law_268 : decode cL_law 268 = .ok (.iadd, 1) := by decide +kernel
theorem dL_law_269 : decode cL_law 269 = .ok (.iaload, 1) := by decide +kernel
theorem dL_law_270 : decode cL_law 270 = .ok (.aload_n 0, 1) := by decide +kernel
theorem dL_law_271 : decode cL_law 271 = .ok (.iload_n 3, 1) := by decide +kernel
theorem dL_law_272 : decode cL_law 272 = .ok (.iconst 3, 1) := by decide +kernel
theorem dL_law_273 : decode cL_law 273 = .ok (.iadd, 1) := by decide +kernel
theorem dL_law_274 : decode cL_law 274 = .ok (.iaload, 1) := by decide +kernel
theorem dL_law_275 : decode cL_law 275 = .ok (.aload_n 0, 1) := by decide +kernel
theorem dL_law_276 : decode cL_law 276 = .ok (.iload_n 3, 1) := by decide +kernel
theorem dL_law_277 : decode cL_law 277 = .ok (.iconst 4, 1) := by decide +kernel
theorem dL_law_278 : decode cL_law 278 = .ok (.iadd, 1) := by decide +kernel
theorem dL_law_279 : decode cL_law 279 = .ok (.iaload, 1) := by decide +kernel
theorem dL_law_280 : decode cL_law 280 = .ok (.invokevirtual 30, 3) := by decide +kernel
theorem dL_law_283 : decode cL_law 283 = .ok (.if_icmp .eq 539, 3) := by decide +kernel
theorem dL_law_286 : decode cL_law 286 = .ok (.iconst 0, 1) := by decide +kernel
theorem dL_law_287 : decode cL_law 287 = .ok (.ireturn, 1) := by decide +kernel
theorem dL_law_288 : decode cL_law 288 = .ok (.aload_n 1, 1) := by decide +kernel
theorem dL_law_289 : decode cL_law 289 = .ok (.aload_n 0, 1) := by decide +kernel
theorem dL_law_290 : decode cL_law 290 = .ok (.iload_n 3, 1) := by decide +kernel
theorem dL_law_291 : decode cL_law 291 = .ok (.iconst 1, 1) := by decide +kernel
theorem dL_law_292 : decode cL_law 292 = .ok (.iadd, 1) := by decide +kernel
theorem dL_law_293 : decode cL_law 293 = .ok (.iaload, 1) := by decide +kernel
theorem dL_law_294 : decode cL_law 294 = .ok (.aload_n 0, 1) := by decide +kernel
theorem dL_law_295 : decode cL_law 295 = .ok (.iload_n 3, 1) := by decide +kernel
theorem dL_law_296 : decode cL_law 296 = .ok (.iconst 2, 1) := by decide +kernel
theorem dL_law_297 : decode cL_law 297 = .ok (.iadd, 1) := by decide +kernel
theorem dL_law_298 : decode cL_law 298 = .ok (.iaload, 1) := by decide +kernel
theorem dL_law_299 : decode cL_law 299 = .ok (.invokevirtual 31, 3) := by decide +kernel
theorem dL_law_302 : decode cL_law 302 = .ok (.aload_n 2, 1) := by decide +kernel
theorem dL_law_303 : decode cL_law 303 = .ok (.aload_n 0, 1) := by decide +kernel
theorem dL_law_304 : decode cL_law 304 = .ok (.iload_n 3, 1) := by decide +kernel
theorem dL_law_305 : decode cL_law 305 = .ok (.iconst 1, 1) := by decide +kernel
theorem dL_law_306 : decode cL_law 306 = .ok (.iadd, 1) := by decide +kernel
theorem dL_law_307 : decode cL_law 307 = .ok (.iaload, 1) := by decide +kernel
theorem dL_law_308 : decode cL_law 308 = .ok (.aload_n 0, 1) := by decide +kernel
theorem dL_law_309 : decode cL_law 309 = .ok (.iload_n 3, 1) := by decide +kernel
theorem dL_law_310 : decode cL_law 310 = .ok (.iconst 2, 1) := by decide +kernel
theorem dL_law_311 : decode cL_law 311 = .ok (.iadd, 1) := by decide +kernel
theorem dL_law_312 : decode cL_law 312 = .ok (.iaload, 1) := by decide +kernel
theorem dL_law_313 : decode cL_law 313 = .ok (.invokevirtual 34, 3) := by decide +kernel
theorem dL_law_316 : decode cL_law 316 = .ok (.if_icmp .eq 506, 3) := by decide +kernel
theorem dL_law_319 : decode cL_law 319 = .ok (.iconst 0, 1) := by decide +kernel
theorem dL_law_320 : decode cL_law 320 = .ok (.ireturn, 1) := by decide +kernel
theorem dL_law_321 : decode cL_law 321 = .ok (.aload_n 1, 1) := by decide +kernel
theorem dL_law_322 : decode cL_law 322 = .ok (.invokevirtual 35, 3) := by decide +kernel
theorem dL_law_325 : decode cL_law 325 = .ok (.aload_n 2, 1) := by decide +kernel
theorem dL_law_326 : decode cL_law 326 = .ok (.invokevirtual 39, 3) := by decide +kernel
theorem dL_law_329 : decode cL_law 329 = .ok (.if_icmp .eq 493, 3) := by decide +kernel
theorem dL_law_332 : decode cL_law 332 = .ok (.iconst 0, 1) := by decide +kernel
theorem dL_law_333 : decode cL_law 333 = .ok (.ireturn, 1) := by decide +kernel
theorem dL_law_334 : decode cL_law 334 = .ok (.aload_n 1, 1) := by decide +kernel
theorem dL_law_335 : decode cL_law 335 = .ok (.invokevirtual 40, 3) := by decide +kernel
theorem dL_law_338 : decode cL_law 338 = .ok (.aload_n 2, 1) := by decide +kernel
theorem dL_law_339 : decode cL_law 339 = .ok (.invokevirtual 43, 3) := by decide +kernel
theorem dL_law_342 : decode cL_law 342 = .ok (.if_icmp .eq 480, 3) := by decide +kernel
theorem dL_law_345 : decode cL_law 345 = .ok (.iconst 0, 1) := by decide +kernel
theorem dL_law_346 : decode cL_law 346 = .ok (.ireturn, 1) := by decide +kernel
theorem dL_law_347 : decode cL_law 347 = .ok (.aload_n 1, 1) := by decide +kernel
theorem dL_law_348 : decode cL_law 348 = .ok (.aload_n 0, 1) := by decide +kernel
theorem dL_law_349 : decode cL_law 349 = .ok (.iload_n 3, 1) := by decide +kernel
theorem dL_law_350 : decode cL_law 350 = .ok (.iconst 1, 1) := by decide +kernel
theorem dL_law_351 : decode cL_law 351 = .ok (.iadd, 1) := by decide +kernel
theorem dL_law_352 : decode cL_law 352 = .ok (.iaload, 1) := by decide +kernel
theorem dL_law_353 : decode cL_law 353 = .ok (.aload_n 0, 1) := by decide +kernel
theorem dL_law_354 : decode cL_law 354 = .ok (.iload_n 3, 1) := by decide +kernel
theorem dL_law_355 : decode cL_law 355 = .ok (.iconst 2, 1) := by decide +kernel
theorem dL_law_356 : decode cL_law 356 = .ok (.iadd, 1) := by decide +kernel
theorem dL_law_357 : decode cL_law 357 = .ok (.iaload, 1) := by decide +kernel
theorem dL_law_358 : decode cL_law 358 = .ok (.invokevirtual 44, 3) := by decide +kernel
theorem dL_law_361 : decode cL_law 361 = .ok (.aload_n 2, 1) := by decide +kernel
theorem dL_law_362 : decode cL_law 362 = .ok (.aload_n 0, 1) := by decide +kernel
theorem dL_law_363 : decode cL_law 363 = .ok (.iload_n 3, 1) := by decide +kernel
theorem dL_law_364 : decode cL_law 364 = .ok (.iconst 1, 1) := by decide +kernel
theorem dL_law_365 : decode cL_law 365 = .ok (.iadd, 1) := by decide +kernel
theorem dL_law_366 : decode cL_law 366 = .ok (.iaload, 1) := by decide +kernel
theorem dL_law_367 : decode cL_law 367 = .ok (.aload_n 0, 1) := by decide +kernel
theorem dL_law_368 : decode cL_law 368 = .ok (.iload_n 3, 1) := by decide +kernel
theorem dL_law_369 : decode cL_law 369 = .ok (.iconst 2, 1) := by decide +kernel
theorem dL_law_370 : decode cL_law 370 = .ok (.iadd, 1) := by decide +kernel
theorem dL_law_371 : decode cL_law 371 = .ok (.iaload, 1) := by decide +kernel
theorem dL_law_372 : decode cL_law 372 = .ok (.invokevirtual 47, 3) := by decide +kernel
theorem dL_law_375 : decode cL_law 375 = .ok (.if_icmp .eq 447, 3) := by decide +kernel
theorem dL_law_378 : decode cL_law 378 = .ok (.iconst 0, 1) := by decide +kernel
theorem dL_law_379 : decode cL_law 379 = .ok (.ireturn, 1) := by decide +kernel
theorem dL_law_380 : decode cL_law 380 = .ok (.aload_n 1, 1) := by decide +kernel
theorem dL_law_381 : decode cL_law 381 = .ok (.aload_n 0, 1) := by decide +kernel
theorem dL_law_382 : decode cL_law 382 = .ok (.iload_n 3, 1) := by decide +kernel
theorem dL_law_383 : decode cL_law 383 = .ok (.iconst 1, 1) := by decide +kernel
theorem dL_law_384 : decode cL_law 384 = .ok (.iadd, 1) := by decide +kernel
theorem dL_law_385 : decode cL_law 385 = .ok (.iaload, 1) := by decide +kernel
theorem dL_law_386 : decode cL_law 386 = .ok (.aload_n 0, 1) := by decide +kernel
theorem dL_law_387 : decode cL_law 387 = .ok (.iload_n 3, 1) := by decide +kernel
theorem dL_law_388 : decode cL_law 388 = .ok (.iconst 2, 1) := by decide +kernel
theorem dL_law_389 : decode cL_law 389 = .ok (.iadd, 1) := by decide +kernel
theorem dL_law_390 : decode cL_law 390 = .ok (.iaload, 1) := by decide +kernel
theorem dL_law_391 : decode cL_law 391 = .ok (.invokevirtual 48, 3) := by decide +kernel
theorem dL_law_394 : decode cL_law 394 = .ok (.aload_n 2, 1) := by decide +kernel
theorem dL_law_395 : decode cL_law 395 = .ok (.aload_n 0, 1) := by decide +kernel
theorem dL_law_396 : decode cL_law 396 = .ok (.iload_n 3, 1) := by decide +kernel
theorem dL_law_397 : decode cL_law 397 = .ok (.iconst 1, 1) := by decide +kernel
theorem dL_law_398 : decode cL_law 398 = .ok (.iadd, 1) := by decide +kernel
theorem dL_law_399 : decode cL_law 399 = .ok (.iaload, 1) := by decide +kernel
theorem dL_law_400 : decode cL_law 400 = .ok (.aload_n 0, 1) := by decide +kernel
theorem dL_law_401 : decode cL_law 401 = .ok (.iload_n 3, 1) := by decide +kernel
theorem dL_law_402 : decode cL_law 402 = .ok (.iconst 2, 1) := by decide +kernel
theorem dL_law_403 : decode cL_law 403 = .ok (.iadd, 1) := by decide +kernel
theorem dL_law_404 : decode cL_law 404 = .ok (.iaload, 1) := by decide +kernel
theorem dL_law_405 : decode cL_law 405 = .ok (.invokevirtual 51, 3) := by decide +kernel
theorem dL_law_408 : decode cL_law 408 = .ok (.if_icmp .eq 414, 3) := by decide +kernel
theorem dL_law_411 : decode cL_law 411 = .ok (.iconst 0, 1) := by decide +kernel
theorem dL_law_412 : decode cL_law 412 = .ok (.ireturn, 1) := by decide +kernel
theorem dL_law_413 : decode cL_law 413 = .ok (.aload_n 1, 1) := by decide +kernel
theorem dL_law_414 : decode cL_law 414 = .ok (.aload_n 0, 1) := by decide +kernel
theorem dL_law_415 : decode cL_law 415 = .ok (.iload_n 3, 1) := by decide +kernel
theorem dL_law_416 : decode cL_law 416 = .ok (.iconst 1, 1) := by decide +kernel
theorem dL_law_417 : decode cL_law 417 = .ok (.iadd, 1) := by decide +kernel
theorem dL_law_418 : decode cL_law 418 = .ok (.iaload, 1) := by decide +kernel
theorem dL_law_419 : decode cL_law 419 = .ok (.aload_n 0, 1) := by decide +kernel
theorem dL_law_420 : decode cL_law 420 = .ok (.iload_n 3, 1) := by decide +kernel
theorem dL_law_421 : decode cL_law 421 = .ok (.iconst 2, 1) := by decide +kernel
theorem dL_law_422 : decode cL_law 422 = .ok (.iadd, 1) := by decide +kernel
theorem dL_law_423 : decode cL_law 423 = .ok (.iaload, 1) := by decide +kernel
theorem dL_law_424 : decode cL_law 424 = .ok (.invokevirtual 52, 3) := by decide +kernel
theorem dL_law_427 : decode cL_law 427 = .ok (.aload_n 2, 1) := by decide +kernel
theorem dL_law_428 : decode cL_law 428 = .ok (.aload_n 0, 1) := by decide +kernel
theorem dL_law_429 : decode cL_law 429 = .ok (.iload_n 3, 1) := by decide +kernel
theorem dL_law_430 : decode cL_law 430 = .ok (.iconst 1, 1) := by decide +kernel
theorem dL_law_431 : decode cL_law 431 = .ok (.iadd, 1) := by decide +kernel
theorem dL_law_432 : decode cL_law 432 = .ok (.iaload, 1) := by decide +kernel
theorem dL_law_433 : decode cL_law 433 = .ok (.aload_n 0, 1) := by decide +kernel
theorem dL_law_434 : decode cL_law 434 = .ok (.iload_n 3, 1) := by decide +kernel
theorem dL_law_435 : decode cL_law 435 = .ok (.iconst 2, 1) := by decide +kernel
theorem dL_law_436 : decode cL_law 436 = .ok (.iadd, 1) := by decide +kernel
theorem dL_law_437 : decode cL_law 437 = .ok (.iaload, 1) := by decide +kernel
theorem dL_law_438 : decode cL_law 438 = .ok (.invokevirtual 55, 3) := by decide +kernel
theorem dL_law_441 : decode cL_law 441 = .ok (.if_icmp .eq 381, 3) := by decide +kernel
theorem dL_law_444 : decode cL_law 444 = .ok (.iconst 0, 1) := by decide +kernel
theorem dL_law_445 : decode cL_law 445 = .ok (.ireturn, 1) := by decide +kernel
theorem dL_law_446 : decode cL_law 446 = .ok (.aload_n 1, 1) := by decide +kernel
theorem dL_law_447 : decode cL_law 447 = .ok (.aload_n 0, 1) := by decide +kernel
theorem dL_law_448 : decode cL_law 448 = .ok (.iload_n 3, 1) := by decide +kernel
theorem dL_law_449 : decode cL_law 449 = .ok (.iconst 1, 1) := by decide +kernel
theorem dL_law_450 : decode cL_law 450 = .ok (.iadd, 1) := by decide +kernel
theorem dL_law_451 : decode cL_law 451 = .ok (.iaload, 1) := by decide +kernel
theorem dL_law_452 : decode cL_law 452 = .ok (.aload_n 0, 1) := by decide +kernel
theorem dL_law_453 : decode cL_law 453 = .ok (.iload_n 3, 1) := by decide +kernel
theorem dL_law_454 : decode cL_law 454 = .ok (.iconst 2, 1) := by decide +kernel
theorem dL_law_455 : decode cL_law 455 = .ok (.iadd, 1) := by decide +kernel
theorem dL_law_456 : decode cL_law 456 = .ok (.iaload, 1) := by decide +kernel
theorem dL_law_457 : decode cL_law 457 = .ok (.aload_n 0, 1) := by decide +kernel
theorem dL_law_458 : decode cL_law 458 = .ok (.iload_n 3, 1) := by decide +kernel
theorem dL_law_459 : decode cL_law 459 = .ok (.iconst 3, 1) := by decide +kernel
theorem dL_law_460 : decode cL_law 460 = .ok (.iadd, 1) := by decide +kernel
theorem dL_law_461 : decode cL_law 461 = .ok (.iaload, 1) := by decide +kernel
theorem dL_law_462 : decode cL_law 462 = .ok (.aload_n 0, 1) := by decide +kernel
theorem dL_law_463 : decode cL_law 463 = .ok (.iload_n 3, 1) := by decide +kernel
theorem dL_law_464 : decode cL_law 464 = .ok (.iconst 4, 1) := by decide +kernel
theorem dL_law_465 : decode cL_law 465 = .ok (.iadd, 1) := by decide +kernel
theorem dL_law_466 : decode cL_law 466 = .ok (.iaload, 1) := by decide +kernel
theorem dL_law_467 : decode cL_law 467 = .ok (.invokevirtual 56, 3) := by decide +kernel
theorem dL_law_470 : decode cL_law 470 = .ok (.aload_n 2, 1) := by decide +kernel
theorem dL_law_471 : decode cL_law 471 = .ok (.aload_n 0, 1) := by decide +kernel
theorem dL_law_472 : decode cL_law 472 = .ok (.iload_n 3, 1) := by decide +kernel
theorem dL_law_473 : decode cL_law 473 = .ok (.iconst 1, 1) := by decide +kernel
theorem dL_law_474 : decode cL_law 474 = .ok (.iadd, 1) := by decide +kernel
theorem dL_law_475 : decode cL_law 475 = .ok (.iaload, 1) := by decide +kernel
theorem dL_law_476 : decode cL_law 476 = .ok (.aload_n 0, 1) := by decide +kernel
theorem dL_law_477 : decode cL_law 477 = .ok (.iload_n 3, 1) := by decide +kernel
theorem dL_law_478 : decode cL_law 478 = .ok (.iconst 2, 1) := by decide +kernel
theorem dL_law_479 : decode cL_law 479 = .ok (.iadd, 1) := by decide +kernel
theorem dL_law_480 : decode cL_law 480 = .ok (.iaload, 1) := by decide +kernel
theorem dL_law_481 : decode cL_law 481 = .ok (.aload_n 0, 1) := by decide +kernel
theorem dL_law_482 : decode cL_law 482 = .ok (.iload_n 3, 1) := by decide +kernel
theorem dL_law_483 : decode cL_law 483 = .ok (.iconst 3, 1) := by decide +kernel
theorem dL_law_484 : decode cL_law 484 = .ok (.iadd, 1) := by decide +kernel
theorem dL_law_485 : decode cL_law 485 = .ok (.iaload, 1) := by decide +kernel
theorem dL_law_486 : decode cL_law 486 = .ok (.aload_n 0, 1) := by decide +kernel
theorem dL_law_487 : decode cL_law 487 = .ok (.iload_n 3, 1) := by decide +kernel
theorem dL_law_488 : decode cL_law 488 = .ok (.iconst 4, 1) := by decide +kernel
theorem dL_law_489 : decode cL_law 489 = .ok (.iadd, 1) := by decide +kernel
theorem dL_law_490 : decode cL_law 490 = .ok (.iaload, 1) := by decide +kernel
theorem dL_law_491 : decode cL_law 491 = .ok (.invokevirtual 59, 3) := by decide +kernel
theorem dL_law_494 : decode cL_law 494 = .ok (.if_icmp .eq 328, 3) := by decide +kernel
theorem dL_law_497 : decode cL_law 497 = .ok (.iconst 0, 1) := by decide +kernel
theorem dL_law_498 : decode cL_law 498 = .ok (.ireturn, 1) := by decide +kernel
theorem dL_law_499 : decode cL_law 499 = .ok (.aload_n 1, 1) := by decide +kernel
theorem dL_law_500 : decode cL_law 500 = .ok (.aload_n 0, 1) := by decide +kernel
theorem dL_law_501 : decode cL_law 501 = .ok (.iload_n 3, 1) := by decide +kernel
theorem dL_law_502 : decode cL_law 502 = .ok (.iconst 1, 1) := by decide +kernel
theorem dL_law_503 : decode cL_law 503 = .ok (.iadd, 1) := by decide +kernel
theorem dL_law_504 : decode cL_law 504 = .ok (.iaload, 1) := by decide +kernel
theorem dL_law_505 : decode cL_law 505 = .ok (.aload_n 0, 1) := by decide +kernel
theorem dL_law_506 : decode cL_law 506 = .ok (.iload_n 3, 1) := by decide +kernel
theorem dL_law_507 : decode cL_law 507 = .ok (.iconst 2, 1) := by decide +kernel
theorem dL_law_508 : decode cL_law 508 = .ok (.iadd, 1) := by decide +kernel
theorem dL_law_509 : decode cL_law 509 = .ok (.iaload, 1) := by decide +kernel
theorem dL_law_510 : decode cL_law 510 = .ok (.aload_n 0, 1) := by decide +kernel
theorem dL_law_511 : decode cL_law 511 = .ok (.iload_n 3, 1) := by decide +kernel
theorem dL_law_512 : decode cL_law 512 = .ok (.iconst 3, 1) := by decide +kernel
theorem dL_law_513 : decode cL_law 513 = .ok (.iadd, 1) := by decide +kernel
theorem dL_law_514 : decode cL_law 514 = .ok (.iaload, 1) := by decide +kernel
theorem dL_law_515 : decode cL_law 515 = .ok (.aload_n 0, 1) := by decide +kernel
theorem dL_law_516 : decode cL_law 516 = .ok (.iload_n 3, 1) := by decide +kernel
theorem dL_law_517 : decode cL_law 517 = .ok (.iconst 4, 1) := by decide +kernel
theorem dL_law_518 : decode cL_law 518 = .ok (.iadd, 1) := by decide +kernel
theorem dL_law_519 : decode cL_law 519 = .ok (.iaload, 1) := by decide +kernel
theorem dL_law_520 : decode cL_law 520 = .ok (.invokevirtual 60, 3) := by decide +kernel
theorem dL_law_523 : decode cL_law 523 = .ok (.aload_n 2, 1) := by decide +kernel
theorem dL_law_524 : decode cL_law 524 = .ok (.aload_n 0, 1) := by decide +kernel
theorem dL_law_525 : decode cL_law 525 = .ok (.iload_n 3, 1) := by decide +kernel
theorem dL_law_526 : decode cL_law 526 = .ok (.iconst 1, 1) := by decide +kernel
theorem dL_law_527 : decode cL_law 527 = .ok (.iadd, 1) := by decide +kernel
theorem dL_law_528 : decode cL_law 528 = .ok (.iaload, 1) := by decide +kernel
theorem dL_law_529 : decode cL_law 529 = .ok (.aload_n 0, 1) := by decide +kernel
theorem dL_law_530 : decode cL_law 530 = .ok (.iload_n 3, 1) := by decide +kernel
theorem dL_law_531 : decode cL_law 531 = .ok (.iconst 2, 1) := by decide +kernel
theorem dL_law_532 : decode cL_law 532 = .ok (.iadd, 1) := by decide +kernel
theorem dL_law_533 : decode cL_law 533 = .ok (.iaload, 1) := by decide +kernel
theorem dL_law_534 : decode cL_law 534 = .ok (.aload_n 0, 1) := by decide +kernel
theorem dL_law_535 : decode cL_law 535 = .ok (.iload_n 3, 1) := by decide +kernel
theorem dL_law_536 : decode cL_law 536 = .ok (.iconst 3, 1) := by decide +kernel
theorem dL_law_537 : decode cL_law 537 = .ok (.iadd, 1) := by decide +kernel
theorem dL_law_538 : decode cL_law 538 = .ok (.iaload, 1) := by decide +kernel
theorem dL_law_539 : decode cL_law 539 = .ok (.aload_n 0, 1) := by decide +kernel
theorem dL_law_540 : decode cL_law 540 = .ok (.iload_n 3, 1) := by decide +kernel
theorem dL_law_541 : decode cL_law 541 = .ok (.iconst 4, 1) := by decide +kernel
theorem dL_law_542 : decode cL_law 542 = .ok (.iadd, 1) := by decide +kernel
theorem dL_law_543 : decode cL_law 543 = .ok (.iaload, 1) := by decide +kernel
theorem dL_law_544 : decode cL_law 544 = .ok (.invokevirtual 63, 3) := by decide +kernel
theorem dL_law_547 : decode cL_law 547 = .ok (.if_icmp .eq 275, 3) := by decide +kernel
theorem dL_law_550 : decode cL_law 550 = .ok (.iconst 0, 1) := by decide +kernel
theorem dL_law_551 : decode cL_law 551 = .ok (.ireturn, 1) := by decide +kernel
theorem dL_law_552 : decode cL_law 552 = .ok (.aload_n 1, 1) := by decide +kernel
theorem dL_law_553 : decode cL_law 553 = .ok (.aload_n 0, 1) := by decide +kernel
theorem dL_law_554 : decode cL_law 554 = .ok (.iload_n 3, 1) := by decide +kernel
theorem dL_law_555 : decode cL_law 555 = .ok (.iconst 1, 1) := by decide +kernel
theorem dL_law_556 : decode cL_law 556 = .ok (.iadd, 1) := by decide +kernel
theorem dL_law_557 : decode cL_law 557 = .ok (.iaload, 1) := by decide +kernel
theorem dL_law_558 : decode cL_law 558 = .ok (.invokevirtual 64, 3) := by decide +kernel
theorem dL_law_561 : decode cL_law 561 = .ok (.aload_n 2, 1) := by decide +kernel
theorem dL_law_562 : decode cL_law 562 = .ok (.aload_n 0, 1) := by decide +kernel
theorem dL_law_563 : decode cL_law 563 = .ok (.iload_n 3, 1) := by decide +kernel
theorem dL_law_564 : decode cL_law 564 = .ok (.iconst 1, 1) := by decide +kernel
theorem dL_law_565 : decode cL_law 565 = .ok (.iadd, 1) := by decide +kernel
theorem dL_law_566 : decode cL_law 566 = .ok (.iaload, 1) := by decide +kernel
theorem dL_law_567 : decode cL_law 567 = .ok (.invokevirtual 68, 3) := by decide +kernel
theorem dL_law_570 : decode cL_law 570 = .ok (.if_icmp .eq 252, 3) := by decide +kernel
theorem dL_law_573 : decode cL_law 573 = .ok (.iconst 0, 1) := by decide +kernel
theorem dL_law_574 : decode cL_law 574 = .ok (.ireturn, 1) := by decide +kernel
theorem dL_law_575 : decode cL_law 575 = .ok (.aload_n 1, 1) := by decide +kernel
theorem dL_law_576 : decode cL_law 576 = .ok (.aload_n 0, 1) := by decide +kernel
theorem dL_law_577 : decode cL_law 577 = .ok (.iload_n 3, 1) := by decide +kernel
theorem dL_law_578 : decode cL_law 578 = .ok (.iconst 1, 1) := by decide +kernel
theorem dL_law_579 : decode cL_law 579 = .ok (.iadd, 1) := by decide +kernel
theorem dL_law_580 : decode cL_law 580 = .ok (.iaload, 1) := by decide +kernel
theorem dL_law_581 : decode cL_law 581 = .ok (.aload_n 0, 1) := by decide +kernel
theorem dL_law_582 : decode cL_law 582 = .ok (.iload_n 3, 1) := by decide +kernel
theorem dL_law_583 : decode cL_law 583 = .ok (.iconst 2, 1) := by decide +kernel
theorem dL_law_584 : decode cL_law 584 = .ok (.iadd, 1) := by decide +kernel
theorem dL_law_585 : decode cL_law 585 = .ok (.iaload, 1) := by decide +kernel
theorem dL_law_586 : decode cL_law 586 = .ok (.invokevirtual 69, 3) := by decide +kernel
theorem dL_law_589 : decode cL_law 589 = .ok (.aload_n 2, 1) := by decide +kernel
theorem dL_law_590 : decode cL_law 590 = .ok (.aload_n 0, 1) := by decide +kernel
theorem dL_law_591 : decode cL_law 591 = .ok (.iload_n 3, 1) := by decide +kernel
theorem dL_law_592 : decode cL_law 592 = .ok (.iconst 1, 1) := by decide +kernel
theorem dL_law_593 : decode cL_law 593 = .ok (.iadd, 1) := by decide +kernel
theorem dL_law_594 : decode cL_law 594 = .ok (.iaload, 1) := by decide +kernel
theorem dL_law_595 : decode cL_law 595 = .ok (.aload_n 0, 1) := by decide +kernel
theorem dL_law_596 : decode cL_law 596 = .ok (.iload_n 3, 1) := by decide +kernel
theorem dL_law_597 : decode cL_law 597 = .ok (.iconst 2, 1) := by decide +kernel
theorem dL_law_598 : decode cL_law 598 = .ok (.iadd, 1) := by decide +kernel
theorem dL_law_599 : decode cL_law 599 = .ok (.iaload, 1) := by decide +kernel
theorem dL_law_600 : decode cL_law 600 = .ok (.invokevirtual 72, 3) := by decide +kernel
theorem dL_law_603 : decode cL_law 603 = .ok (.if_icmp .eq 219, 3) := by decide +kernel
theorem dL_law_606 : decode cL_law 606 = .ok (.iconst 0, 1) := by decide +kernel
theorem dL_law_607 : decode cL_law 607 = .ok (.ireturn, 1) := by decide +kernel
theorem dL_law_608 : decode cL_law 608 = .ok (.aload_n 1, 1) := by decide +kernel
theorem dL_law_609 : decode cL_law 609 = .ok (.aload_n 0, 1) := by decide +kernel
theorem dL_law_610 : decode cL_law 610 = .ok (.iload_n 3, 1) := by decide +kernel
theorem dL_law_611 : decode cL_law 611 = .ok (.iconst 1, 1) := by decide +kernel
theorem dL_law_612 : decode cL_law 612 = .ok (.iadd, 1) := by decide +kernel
theorem dL_law_613 : decode cL_law 613 = .ok (.iaload, 1) := by decide +kernel
theorem dL_law_614 : decode cL_law 614 = .ok (.aload_n 0, 1) := by decide +kernel
theorem dL_law_615 : decode cL_law 615 = .ok (.iload_n 3, 1) := by decide +kernel
theorem dL_law_616 : decode cL_law 616 = .ok (.iconst 2, 1) := by decide +kernel
theorem dL_law_617 : decode cL_law 617 = .ok (.iadd, 1) := by decide +kernel
theorem dL_law_618 : decode cL_law 618 = .ok (.iaload, 1) := by decide +kernel
theorem dL_law_619 : decode cL_law 619 = .ok (.aload_n 0, 1) := by decide +kernel
theorem dL_law_620 : decode cL_law 620 = .ok (.iload_n 3, 1) := by decide +kernel
theorem dL_law_621 : decode cL_law 621 = .ok (.iconst 3, 1) := by decide +kernel
theorem dL_law_622 : decode cL_law 622 = .ok (.iadd, 1) := by decide +kernel
theorem dL_law_623 : decode cL_law 623 = .ok (.iaload, 1) := by decide +kernel
theorem dL_law_624 : decode cL_law 624 = .ok (.invokevirtual 73, 3) := by decide +kernel
theorem dL_law_627 : decode cL_law 627 = .ok (.aload_n 2, 1) := by decide +kernel
theorem dL_law_628 : decode cL_law 628 = .ok (.aload_n 0, 1) := by decide +kernel
theorem dL_law_629 : decode cL_law 629 = .ok (.iload_n 3, 1) := by decide +kernel
theorem dL_law_630 : decode cL_law 630 = .ok (.iconst 1, 1) := by decide +kernel
theorem dL_law_631 : decode cL_law 631 = .ok (.iadd, 1) := by decide +kernel
theorem dL_law_632 : decode cL_law 632 = .ok (.iaload, 1) := by decide +kernel
theorem dL_law_633 : decode cL_law 633 = .ok (.aload_n 0, 1) := by decide +kernel
theorem dL_law_634 : decode cL_law 634 = .ok (.iload_n 3, 1) := by decide +kernel
theorem dL_law_635 : decode cL_law 635 = .ok (.iconst 2, 1) := by decide +kernel
theorem dL_law_636 : decode cL_law 636 = .ok (.iadd, 1) := by decide +kernel
theorem dL_law_637 : decode cL_law 637 = .ok (.iaload, 1) := by decide +kernel
theorem dL_law_638 : decode cL_law 638 = .ok (.aload_n 0, 1) := by decide +kernel
theorem dL_law_639 : decode cL_law 639 = .ok (.iload_n 3, 1) := by decide +kernel
theorem dL_law_640 : decode cL_law 640 = .ok (.iconst 3, 1) := by decide +kernel
theorem dL_law_641 : decode cL_law 641 = .ok (.iadd, 1) := by decide +kernel
theorem dL_law_642 : decode cL_law 642 = .ok (.iaload, 1) := by decide +kernel
theorem dL_law_643 : decode cL_law 643 = .ok (.invokevirtual 77, 3) := by decide +kernel
theorem dL_law_646 : decode cL_law 646 = .ok (.if_icmp .eq 176, 3) := by decide +kernel
theorem dL_law_649 : decode cL_law 649 = .ok (.iconst 0, 1) := by decide +kernel
theorem dL_law_650 : decode cL_law 650 = .ok (.ireturn, 1) := by decide +kernel
theorem dL_law_651 : decode cL_law 651 = .ok (.aload_n 1, 1) := by decide +kernel
theorem dL_law_652 : decode cL_law 652 = .ok (.aload_n 0, 1) := by decide +kernel
theorem dL_law_653 : decode cL_law 653 = .ok (.iload_n 3, 1) := by decide +kernel
theorem dL_law_654 : decode cL_law 654 = .ok (.iconst 1, 1) := by decide +kernel
theorem dL_law_655 : decode cL_law 655 = .ok (.iadd, 1) := by decide +kernel
theorem dL_law_656 : decode cL_law 656 = .ok (.iaload, 1) := by decide +kernel
theorem dL_law_657 : decode cL_law 657 = .ok (.aload_n 0, 1) := by decide +kernel
theorem dL_law_658 : decode cL_law 658 = .ok (.iload_n 3, 1) := by decide +kernel
theorem dL_law_659 : decode cL_law 659 = .ok (.iconst 2, 1) := by decide +kernel
theorem dL_law_660 : decode cL_law 660 = .ok (.iadd, 1) := by decide +kernel
theorem dL_law_661 : decode cL_law 661 = .ok (.iaload, 1) := by decide +kernel
theorem dL_law_662 : decode cL_law 662 = .ok (.invokevirtual 78, 3) := by decide +kernel
theorem dL_law_665 : decode cL_law 665 = .ok (.aload_n 2, 1) := by decide +kernel
theorem dL_law_666 : decode cL_law 666 = .ok (.aload_n 0, 1) := by decide +kernel
theorem dL_law_667 : decode cL_law 667 = .ok (.iload_n 3, 1) := by decide +kernel
theorem dL_law_668 : decode cL_law 668 = .ok (.iconst 1, 1) := by decide +kernel
theorem dL_law_669 : decode cL_law 669 = .ok (.iadd, 1) := by decide +kernel
theorem dL_law_670 : decode cL_law 670 = .ok (.iaload, 1) := by decide +kernel
theorem dL_law_671 : decode cL_law 671 = .ok (.aload_n 0, 1) := by decide +kernel
theorem dL_law_672 : decode cL_law 672 = .ok (.iload_n 3, 1) := by decide +kernel
theorem dL_law_673 : decode cL_law 673 = .ok (.iconst 2, 1) := by decide +kernel
theorem dL_law_674 : decode cL_law 674 = .ok (.iadd, 1) := by decide +kernel
theorem dL_law_675 : decode cL_law 675 = .ok (.iaload, 1) := by decide +kernel
theorem dL_law_676 : decode cL_law 676 = .ok (.invokevirtual 81, 3) := by decide +kernel
theorem dL_law_679 : decode cL_law 679 = .ok (.if_icmp .eq 143, 3) := by decide +kernel
theorem dL_law_682 : decode cL_law 682 = .ok (.iconst 0, 1) := by decide +kernel
theorem dL_law_683 : decode cL_law 683 = .ok (.ireturn, 1) := by decide +kernel
theorem dL_law_684 : decode cL_law 684 = .ok (.aload_n 1, 1) := by decide +kernel
theorem dL_law_685 : decode cL_law 685 = .ok (.aload_n 0, 1) := by decide +kernel
theorem dL_law_686 : decode cL_law 686 = .ok (.iload_n 3, 1) := by decide +kernel
theorem dL_law_687 : decode cL_law 687 = .ok (.iconst 1, 1) := by decide +kernel
theorem dL_law_688 : decode cL_law 688 = .ok (.iadd, 1) := by decide +kernel
theorem dL_law_689 : decode cL_law 689 = .ok (.iaload, 1) := by decide +kernel
theorem dL_law_690 : decode cL_law 690 = .ok (.i2l, 1) := by decide +kernel
theorem dL_law_691 : decode cL_law 691 = .ok (.bipush 32, 2) := by decide +kernel
theorem dL_law_693 : decode cL_law 693 = .ok (.lshl, 1) := by decide +kernel
theorem dL_law_694 : decode cL_law 694 = .ok (.aload_n 0, 1) := by decide +kernel
theorem dL_law_695 : decode cL_law 695 = .ok (.iload_n 3, 1) := by decide +kernel
theorem dL_law_696 : decode cL_law 696 = .ok (.iconst 2, 1) := by decide +kernel
theorem dL_law_697 : decode cL_law 697 = .ok (.iadd, 1) := by decide +kernel
theorem dL_law_698 : decode cL_law 698 = .ok (.iaload, 1) := by decide +kernel
theorem dL_law_699 : decode cL_law 699 = .ok (.i2l, 1) := by decide +kernel
theorem dL_law_700 : decode cL_law 700 = .ok (.ldc2_w 82, 3) := by decide +kernel
theorem dL_law_703 : decode cL_law 703 = .ok (.land, 1) := by decide +kernel
theorem dL_law_704 : decode cL_law 704 = .ok (.lor, 1) := by decide +kernel
theorem dL_law_705 : decode cL_law 705 = .ok (.invokevirtual 84, 3) := by decide +kernel
theorem dL_law_708 : decode cL_law 708 = .ok (.aload_n 2, 1) := by decide +kernel
theorem dL_law_709 : decode cL_law 709 = .ok (.aload_n 0, 1) := by decide +kernel
theorem dL_law_710 : decode cL_law 710 = .ok (.iload_n 3, 1) := by decide +kernel
theorem dL_law_711 : decode cL_law 711 = .ok (.iconst 1, 1) := by decide +kernel
theorem dL_law_712 : decode cL_law 712 = .ok (.iadd, 1) := by decide +kernel
theorem dL_law_713 : decode cL_law 713 = .ok (.iaload, 1) := by decide +kernel
theorem dL_law_714 : decode cL_law 714 = .ok (.i2l, 1) := by decide +kernel
theorem dL_law_715 : decode cL_law 715 = .ok (.bipush 32, 2) := by decide +kernel
theorem dL_law_717 : decode cL_law 717 = .ok (.lshl, 1) := by decide +kernel
theorem dL_law_718 : decode cL_law 718 = .ok (.aload_n 0, 1) := by decide +kernel
theorem dL_law_719 : decode cL_law 719 = .ok (.iload_n 3, 1) := by decide +kernel
theorem dL_law_720 : decode cL_law 720 = .ok (.iconst 2, 1) := by decide +kernel
theorem dL_law_721 : decode cL_law 721 = .ok (.iadd, 1) := by decide +kernel
theorem dL_law_722 : decode cL_law 722 = .ok (.iaload, 1) := by decide +kernel
theorem dL_law_723 : decode cL_law 723 = .ok (.i2l, 1) := by decide +kernel
theorem dL_law_724 : decode cL_law 724 = .ok (.ldc2_w 82, 3) := by decide +kernel
theorem dL_law_727 : decode cL_law 727 = .ok (.land, 1) := by decide +kernel
theorem dL_law_728 : decode cL_law 728 = .ok (.lor, 1) := by decide +kernel
theorem dL_law_729 : decode cL_law 729 = .ok (.invokevirtual 88, 3) := by decide +kernel
theorem dL_law_732 : decode cL_law 732 = .ok (.if_icmp .eq 90, 3) := by decide +kernel
theorem dL_law_735 : decode cL_law 735 = .ok (.iconst 0, 1) := by decide +kernel
theorem dL_law_736 : decode cL_law 736 = .ok (.ireturn, 1) := by decide +kernel
theorem dL_law_737 : decode cL_law 737 = .ok (.aload_n 1, 1) := by decide +kernel
theorem dL_law_738 : decode cL_law 738 = .ok (.invokevirtual 89, 3) := by decide +kernel
theorem dL_law_741 : decode cL_law 741 = .ok (.aload_n 2, 1) := by decide +kernel
theorem dL_law_742 : decode cL_law 742 = .ok (.invokevirtual 92, 3) := by decide +kernel
theorem dL_law_745 : decode cL_law 745 = .ok (.if_icmp .eq 77, 3) := by decide +kernel
theorem dL_law_748 : decode cL_law 748 = .ok (.iconst 0, 1) := by decide +kernel
theorem dL_law_749 : decode cL_law 749 = .ok (.ireturn, 1) := by decide +kernel
theorem dL_law_750 : decode cL_law 750 = .ok (.aload_n 1, 1) := by decide +kernel
theorem dL_law_751 : decode cL_law 751 = .ok (.invokevirtual 93, 3) := by decide +kernel
theorem dL_law_754 : decode cL_law 754 = .ok (.aload_n 2, 1) := by decide +kernel
theorem dL_law_755 : decode cL_law 755 = .ok (.invokevirtual 96, 3) := by decide +kernel
theorem dL_law_758 : decode cL_law 758 = .ok (.if_icmp .eq 64, 3) := by decide +kernel
theorem dL_law_761 : decode cL_law 761 = .ok (.iconst 0, 1) := by decide +kernel
theorem dL_law_762 : decode cL_law 762 = .ok (.ireturn, 1) := by decide +kernel
theorem dL_law_763 : decode cL_law 763 = .ok (.aload_n 1, 1) := by decide +kernel
theorem dL_law_764 : decode cL_law 764 = .ok (.invokevirtual 97, 3) := by decide +kernel
theorem dL_law_767 : decode cL_law 767 = .ok (.aload_n 2, 1) := by decide +kernel
theorem dL_law_768 : decode cL_law 768 = .ok (.invokevirtual 100, 3) := by decide +kernel
theorem dL_law_771 : decode cL_law 771 = .ok (.if_icmp .eq 51, 3) := by decide +kernel
theorem dL_law_774 : decode cL_law 774 = .ok (.iconst 0, 1) := by decide +kernel
theorem dL_law_775 : decode cL_law 775 = .ok (.ireturn, 1) := by decide +kernel
theorem dL_law_776 : decode cL_law 776 = .ok (.aload_n 1, 1) := by decide +kernel
theorem dL_law_777 : decode cL_law 777 = .ok (.aload_n 0, 1) := by decide +kernel
theorem dL_law_778 : decode cL_law 778 = .ok (.iload_n 3, 1) := by decide +kernel
theorem dL_law_779 : decode cL_law 779 = .ok (.iconst 1, 1) := by decide +kernel
theorem dL_law_780 : decode cL_law 780 = .ok (.iadd, 1) := by decide +kernel
theorem dL_law_781 : decode cL_law 781 = .ok (.iaload, 1) := by decide +kernel
theorem dL_law_782 : decode cL_law 782 = .ok (.invokevirtual 101, 3) := by decide +kernel
theorem dL_law_785 : decode cL_law 785 = .ok (.aload_n 2, 1) := by decide +kernel
theorem dL_law_786 : decode cL_law 786 = .ok (.aload_n 0, 1) := by decide +kernel
theorem dL_law_787 : decode cL_law 787 = .ok (.iload_n 3, 1) := by decide +kernel
theorem dL_law_788 : decode cL_law 788 = .ok (.iconst 1, 1) := by decide +kernel
theorem dL_law_789 : decode cL_law 789 = .ok (.iadd, 1) := by decide +kernel
theorem dL_law_790 : decode cL_law 790 = .ok (.iaload, 1) := by decide +kernel
theorem dL_law_791 : decode cL_law 791 = .ok (.invokevirtual 104, 3) := by decide +kernel
theorem dL_law_794 : decode cL_law 794 = .ok (.if_icmp .eq 28, 3) := by decide +kernel
theorem dL_law_797 : decode cL_law 797 = .ok (.iconst 0, 1) := by decide +kernel
theorem dL_law_798 : decode cL_law 798 = .ok (.ireturn, 1) := by decide +kernel
theorem dL_law_799 : decode cL_law 799 = .ok (.aload_n 1, 1) := by decide +kernel
theorem dL_law_800 : decode cL_law 800 = .ok (.aload_n 0, 1) := by decide +kernel
theorem dL_law_801 : decode cL_law 801 = .ok (.iload_n 3, 1) := by decide +kernel
theorem dL_law_802 : decode cL_law 802 = .ok (.iconst 1, 1) := by decide +kernel
theorem dL_law_803 : decode cL_law 803 = .ok (.iadd, 1) := by decide +kernel
theorem dL_law_804 : decode cL_law 804 = .ok (.iaload, 1) := by decide +kernel
theorem dL_law_805 : decode cL_law 805 = .ok (.invokevirtual 105, 3) := by decide +kernel
theorem dL_law_808 : decode cL_law 808 = .ok (.aload_n 2, 1) := by decide +kernel
theorem dL_law_809 : decode cL_law 809 = .ok (.aload_n 0, 1) := by decide +kernel
theorem dL_law_810 : decode cL_law 810 = .ok (.iload_n 3, 1) := by decide +kernel
theorem dL_law_811 : decode cL_law 811 = .ok (.iconst 1, 1) := by decide +kernel
theorem dL_law_812 : decode cL_law 812 = .ok (.iadd, 1) := by decide +kernel
theorem dL_law_813 : decode cL_law 813 = .ok (.iaload, 1) := by decide +kernel
theorem dL_law_814 : decode cL_law 814 = .ok (.invokevirtual 108, 3) := by decide +kernel
theorem dL_law_817 : decode cL_law 817 = .ok (.if_icmp .eq 5, 3) := by decide +kernel
theorem dL_law_820 : decode cL_law 820 = .ok (.iconst 0, 1) := by decide +kernel
theorem dL_law_821 : decode cL_law 821 = .ok (.ireturn, 1) := by decide +kernel
theorem dL_law_822 : decode cL_law 822 = .ok (.iinc 3 5, 3) := by decide +kernel
theorem dL_law_825 : decode cL_law 825 = .ok (.goto (-807), 3) := by decide +kernel
theorem dL_law_828 : decode cL_law 828 = .ok (.iconst 1, 1) := by decide +kernel
theorem dL_law_829 : decode cL_law 829 = .ok (.ireturn, 1) := by decide +kernel
theorem dJ9_max_7cf53_0 : decode cJ9_max_7cf53 0 = .ok (.iload_n 0, 1) := by decide +kernel
theorem dJ9_max_7cf53_1 : decode cJ9_max_7cf53 1 = .ok (.iload_n 1, 1) := by decide +kernel
theorem dJ9_max_7cf53_2 : decode cJ9_max_7cf53 2 = .ok (.if_icmp .lt 7, 3) := by decide +kernel
theorem dJ9_max_7cf53_5 : decode cJ9_max_7cf53 5 = .ok (.iload_n 0, 1) := by decide +kernel
theorem dJ9_max_7cf53_6 : decode cJ9_max_7cf53 6 = .ok (.goto 4, 3) := by decide +kernel
theorem dJ9_max_7cf53_9 : decode cJ9_max_7cf53 9 = .ok (.iload_n 1, 1) := by decide +kernel
theorem dJ9_max_7cf53_10 : decode cJ9_max_7cf53 10 = .ok (.ireturn, 1) := by decide +kernel
theorem dJ9_min_7cf53_0 : decode cJ9_min_7cf53 0 = .ok (.iload_n 0, 1) := by decide +kernel
theorem dJ9_min_7cf53_1 : decode cJ9_min_7cf53 1 = .ok (.iload_n 1, 1) := by decide +kernel
theorem dJ9_min_7cf53_2 : decode cJ9_min_7cf53 2 = .ok (.if_icmp .gt 7, 3) := by decide +kernel
theorem dJ9_min_7cf53_5 : decode cJ9_min_7cf53 5 = .ok (.iload_n 0, 1) := by decide +kernel
theorem dJ9_min_7cf53_6 : decode cJ9_min_7cf53 6 = .ok (.goto 4, 3) := by decide +kernel
theorem dJ9_min_7cf53_9 : decode cJ9_min_7cf53 9 = .ok (.iload_n 1, 1) := by decide +kernel
theorem dJ9_min_7cf53_10 : decode cJ9_min_7cf53 10 = .ok (.ireturn, 1) := by decide +kernel
end
section
/-! ===== pools: the whole world is one pool va_pl L f; a judgement pv_G that hides heap, written places and locals' row ===== -/
/-- the constants of a world: classes and slots, array classes (0 char, 1 int, 2 boolean, 3 School), addresses of the three static tables -/
abbrev pv_Kt : Type := va_G × (Nat → ClassId) × (Nat → Nat)
abbrev pv_tys (κ : pv_Kt) : List (ClassId × FieldType) := [(κ.2.1 0, .char), (κ.2.1 1, .int), (κ.2.1 2, .boolean), (κ.2.1 3, .object "ExcuseTariffs$School")]
def pv_t0 : Nat → Int32 := fun k => match k with | 0 => 40 | 1 => 25 | 2 => 3 | 3 => 5 | _ => 4
def pv_t1 : Nat → Int32 := fun k => match k with | 0 => 1 | 1 => 0 | 2 => 1 | 3 => 1 | _ => 0
def pv_t2 : Nat → Int32 := fun k => match k with | 0 => 99 | 1 => 50 | 2 => 9 | 3 => 60 | _ => 20
def pv_tb (n : String) (t : Nat) (f : Nat → Int32) (A : Nat → Prop) (U : State) : Prop := va_Z "ExcuseTariffs" n "[I" (.ref t) A U U.heap ∧ va_T .int t 5 (fun j => .int (f j)) A U U.heap
/-- the links between nest mates -/
def pv_N (U : State) : Prop := va_Nw (.methodLinkNest RX4 33 yX1_init "ExcuseTariffs") U ∧ va_Nw (.methodLinkNest RX4 40 yX2_init "ExcuseTariffs") U ∧ va_Nw (.methodLinkNest RX2 54 yX4_isWithin "ExcuseTariffs") U ∧ va_Nw (.methodLinkNest RX3 61 yX4_copy "ExcuseTariffs") U ∧ va_Nw (.methodLinkNest RX3 73 yX4_classOf "ExcuseTariffs") U ∧ va_Nw (.fieldLinkNest RX3 9 RX4 "FIRST_SETTINGS" "[I" "ExcuseTariffs") U
def pv_T (κ : pv_Kt) (A : Nat → Prop) (U : State) : Prop := (pv_tb "FIRST_SETTINGS" (κ.2.2 0) pv_t0 A U ∧ pv_tb "LEAST_SETTINGS" (κ.2.2 1) pv_t1 A U ∧ pv_tb "MOST_SETTINGS" (κ.2.2 2) pv_t2 A U) ∧ pv_N U ∧ va_AO RX3 U
theorem pv_N.warm {s U : State} (hW : s.WarmedH U.vm) (h : pv_N s) : pv_N U := ⟨va_Nw.warmM hW h.1, va_Nw.warmM hW h.2.1, va_Nw.warmM hW h.2.2.1, va_Nw.warmM hW h.2.2.2.1, va_Nw.warmM hW h.2.2.2.2.1, va_Nw.warmF hW h.2.2.2.2.2⟩
theorem pv_N.same {s U : State} (hv : s.vm = U.vm) (h : pv_N s) : pv_N U := ⟨va_Nw.same rfl hv h.1, va_Nw.same rfl hv h.2.1, va_Nw.same rfl hv h.2.2.1, va_Nw.same rfl hv h.2.2.2.1, va_Nw.same rfl hv h.2.2.2.2.1, va_Nw.same rfl hv h.2.2.2.2.2⟩
theorem pv_tb.go {n : String} {t : Nat} {f : Nat → Int32} {A B : Nat → Prop} {u U : State} (hvm : u.vm.Alike U.vm) (hq : ∀ a : Nat, a < u.heap.size → ¬ A a → U.heap[a]? = u.heap[a]?) (hAB : ∀ q, q < u.heap.size → B q → A q) (h : pv_tb n t f A u) : pv_tb n t f B U := by
  obtain ⟨⟨cf, kf, fi, fd, a, cell, h1, h2, h3, h4, h5, h6, h7, h8⟩, ⟨c2, g1, g2, g3, g4, g5, g6, g7⟩⟩ := h
  have l5 := (Array.getElem?_eq_some_iff.mp h5).1
  have l1 := (Array.getElem?_eq_some_iff.mp g1).1
  obtain ⟨k', hi', he⟩ := State.fieldFound?_setVm hvm h1
  exact ⟨⟨cf, k', fi, fd, a, cell, hi', h2, by rw [he]; exact h3, by rw [he]; exact h4, by rw [hq a l5 h8]; exact h5, h6, h7, fun z => h8 (hAB a l5 z)⟩, ⟨c2, by rw [hq t l1 g7]; exact g1, State.isArrayOf_alike hvm g2, g3, g4, g5, g6, fun z => g7 (hAB t l1 z)⟩⟩
/-- a method's start -/
def pv_P (κ : pv_Kt) (L : List Nat) (f : Nat → va_E) (sz : Nat) (U : State) : Prop := U.heap.size = sz ∧ va_P κ.1 vwCl (va_pl L f) U.heap ∧ va_K κ.1 vwCl (pv_tys κ) U ∧ va_D (fun _ => True) (va_pl L f) ∧ pv_T κ (va_A (va_pl L f) sz) U
/-- the world behind it -/
def pv_B (κ : pv_Kt) (A : Nat → Prop) (u : List Nat × (Nat → va_E)) (t : State) : Prop := va_P κ.1 vwCl (va_pl u.1 u.2) t.heap ∧ va_K κ.1 vwCl (pv_tys κ) t ∧ va_D A (va_pl u.1 u.2)
/-- contracts: an answer that is an int (or boolean); none -/
def pv_Mi (l : Launch) (κ : pv_Kt) (y : MethodName) (ws : List Cond) (rm : Room) (L : List Nat) (f : Nat → va_E) (av : List Value) (mc ms : Nat) (post : Int32 → List Nat × (Nat → va_E) → Prop) : Prop := ∀ sz : Nat, Met l y ws rm (va_Pc av (pv_P κ L f sz)) (va_Qi post (pv_B κ (va_A (va_pl L f) sz)) (va_A (va_pl L f) sz)) mc ms (va_A (va_pl L f) sz)
def pv_Mv (l : Launch) (κ : pv_Kt) (y : MethodName) (ws : List Cond) (rm : Room) (L : List Nat) (f : Nat → va_E) (av : List Value) (mc ms : Nat) (post : List Nat × (Nat → va_E) → Prop) : Prop := ∀ sz : Nat, Met l y ws rm (va_Pc av (pv_P κ L f sz)) (va_Qv post (pv_B κ (va_A (va_pl L f) sz)) (va_A (va_pl L f) sz)) mc ms (va_A (va_pl L f) sz)
/-- what a body stands on -/
def pv_C (κ : pv_Kt) (p : Program) (R : Room) (s : State) (m : MethodId) (args : Array Value) (meth : Method) (c : Code) (y : MethodName) (cc : ByteArray) (nL : Nat) (Ts : List Cond) (rt : Option FieldType) (A : Nat → Prop) : Prop :=
  p.tables.exec = Jvm.exec ∧ c.code = cc ∧ c.maxLocals = nL ∧ s.vm.findClass y.cls = some m.cls ∧ (∀ w ∈ Ts, w.before args s = true) ∧ meth.sig.returnType = rt ∧ meth.locks = false ∧ va_K κ.1 vwCl (pv_tys κ) s ∧ (∀ q : Nat, s.heap.size ≤ q → A q) ∧ pv_T κ A s ∧ meth.name = y.name
def pv_G (κ : pv_Kt) (p : Program) (l : Launch) (e : Env) (R : Room) (s : State) (m : MethodId) (args : Array Value) (below : List Frame) (meth : Method) (c : Code) (Q : State → Prop) (A : Nat → Prop) (nL : Nat) (cells slots : Nat) (L : List Nat) (f : Nat → va_E) (pc : Nat) (vs : List (Nat × Value)) (st : List Value) : Prop :=
  ∀ (H : Heap) (locs : List Loc) (ls : Array Slot), va_P κ.1 vwCl (va_pl L f) H → va_D A (va_pl L f) → va_S A s.heap H locs → lv_has ls nL vs → W p l e R s m args below meth c H locs cells slots Q (F0 m pc ls st)
theorem pv_startI {l : Launch} {κ : pv_Kt} {y : MethodName} {ws ws' : List Cond} {rm : Room} {L : List Nat} {f : Nat → va_E} {av : List Value} {mc ms : Nat} {post : Int32 → List Nat × (Nat → va_E) → Prop} {cc : ByteArray} {maxL : Nat} {ret : Option FieldType} (hy : plainName y.cls = true) (hw : ws = Cond.code y cc maxL ret :: ws') (hlen : (lg_sl av).length ≤ maxL)
    (body : ∀ (A : Nat → Prop) (p : Program) (e : Env) (s : State) (m : MethodId) (args : Array Value) (below : List Frame) (meth : Method) (c : Code), pv_C κ p rm s m args meth c y cc maxL ws ret A → pv_G κ p l e rm s m args below meth c (MQ below (va_Qi post (pv_B κ A) A) args s mc ms A) A maxL 0 0 L f 0 (lv_args 0 av) []) : pv_Mi l κ y ws rm L f av mc ms post := by
  intro sz
  refine Met.ofW (cc := cc) (maxL := maxL) (ret := ret) hy hw ?_
  intro p e s m args below meth c s₁ B hml hv
  obtain ⟨rfl, hsz, hP, hK, hD0, hT⟩ := hv
  subst hsz
  have hn := name_of_methodNamed B.named B.method
  have C : pv_C κ p rm s m av.toArray meth c y cc maxL ws ret (va_A (va_pl L f) s.heap.size) := ⟨B.exec, B.bytes, hml, findClass_of_methodNamed B.named, atoms_spec (ws := ws) B.pre, B.returns, B.notSynchronized, hK, fun q h => Or.inr h, hT, hn.1⟩
  rw [lg_entry_eq]
  exact body _ p e s m _ below meth c C s.heap [] _ hP (hD0.self (sz := s.heap.size)) va_S.rf (lv_entry av hlen)
theorem pv_startV {l : Launch} {κ : pv_Kt} {y : MethodName} {ws ws' : List Cond} {rm : Room} {L : List Nat} {f : Nat → va_E} {av : List Value} {mc ms : Nat} {post : List Nat × (Nat → va_E) → Prop} {cc : ByteArray} {maxL : Nat} {ret : Option FieldType} (hy : plainName y.cls = true) (hw : ws = Cond.code y cc maxL ret :: ws') (hlen : (lg_sl av).length ≤ maxL)
    (body : ∀ (A : Nat → Prop) (p : Program) (e : Env) (s : State) (m : MethodId) (args : Array Value) (below : List Frame) (meth : Method) (c : Code), pv_C κ p rm s m args meth c y cc maxL ws ret A → pv_G κ p l e rm s m args below meth c (MQ below (va_Qv post (pv_B κ A) A) args s mc ms A) A maxL 0 0 L f 0 (lv_args 0 av) []) : pv_Mv l κ y ws rm L f av mc ms post := by
  intro sz
  refine Met.ofW (cc := cc) (maxL := maxL) (ret := ret) hy hw ?_
  intro p e s m args below meth c s₁ B hml hv
  obtain ⟨rfl, hsz, hP, hK, hD0, hT⟩ := hv
  subst hsz
  have hn := name_of_methodNamed B.named B.method
  have C : pv_C κ p rm s m av.toArray meth c y cc maxL ws ret (va_A (va_pl L f) s.heap.size) := ⟨B.exec, B.bytes, hml, findClass_of_methodNamed B.named, atoms_spec (ws := ws) B.pre, B.returns, B.notSynchronized, hK, fun q h => Or.inr h, hT, hn.1⟩
  rw [lg_entry_eq]
  exact body _ p e s m _ below meth c C s.heap [] _ hP (hD0.self (sz := s.heap.size)) va_S.rf (lv_entry av hlen)
end
section
section PVR
variable {κ : pv_Kt} {p : Program} {l : Launch} {e : Env} {R : Room} {s : State} {m : MethodId} {args : Array Value} {below : List Frame} {meth : Method} {c : Code} {Q : State → Prop} {A : Nat → Prop} {nL : Nat} {cells slots : Nat} {L : List Nat} {f : Nat → va_E} {pc : Nat} {vs : List (Nat × Value)} {st : List Value}
variable {y : MethodName} {cc : ByteArray} {Ts : List Cond} {rt : Option FieldType}
theorem pg_widen {k n : Nat} (h1 : cells ≤ k) (h2 : slots ≤ n) (kk : pv_G κ p l e R s m args below meth c Q A nL k n L f pc vs st) : pv_G κ p l e R s m args below meth c Q A nL cells slots L f pc vs st := fun H locs ls hP hD hS h => W.widen h1 h2 (kk H locs ls hP hD hS h)
theorem pg_top {x x' : Int32} (hx : x = x') (kk : pv_G κ p l e R s m args below meth c Q A nL cells slots L f pc vs (.int x' :: st)) : pv_G κ p l e R s m args below meth c Q A nL cells slots L f pc vs (.int x :: st) := hx ▸ kk
theorem pg_topl {x x' : Int64} (hx : x = x') (kk : pv_G κ p l e R s m args below meth c Q A nL cells slots L f pc vs (.long x' :: st)) : pv_G κ p l e R s m args below meth c Q A nL cells slots L f pc vs (.long x :: st) := hx ▸ kk
theorem pg_nam {x : Int32} (kk : ∀ x' : Int32, x' = x → pv_G κ p l e R s m args below meth c Q A nL cells slots L f pc vs (.int x' :: st)) : pv_G κ p l e R s m args below meth c Q A nL cells slots L f pc vs (.int x :: st) := kk x rfl
theorem pg_naml {x : Int64} (kk : ∀ x' : Int64, x' = x → pv_G κ p l e R s m args below meth c Q A nL cells slots L f pc vs (.long x' :: st)) : pv_G κ p l e R s m args below meth c Q A nL cells slots L f pc vs (.long x :: st) := kk x rfl
theorem pg_sub {vs' : List (Nat × Value)} (ks : List Nat) (hl : lv_pick vs ks = vs') (kk : pv_G κ p l e R s m args below meth c Q A nL cells slots L f pc vs' st) : pv_G κ p l e R s m args below meth c Q A nL cells slots L f pc vs st := fun H locs ls hP hD hS h => kk H locs ls hP hD hS (lv_sub h ks hl)
theorem pg_f {g : Nat → va_E} (hg : f = g) (kk : pv_G κ p l e R s m args below meth c Q A nL cells slots L g pc vs st) : pv_G κ p l e R s m args below meth c Q A nL cells slots L f pc vs st := hg ▸ kk
theorem pg_iconst (hC : pv_C κ p R s m args meth c y cc nL Ts rt A) {n : Int} {v : Int32} (hdg : decode cc pc = .ok (.iconst n, 1)) (hv : Int32.ofInt n = v) (kk : pv_G κ p l e R s m args below meth c Q A nL cells slots L f (pc + 1) vs (.int v :: st)) : pv_G κ p l e R s m args below meth c Q A nL cells slots L f pc vs st := fun H locs ls hP hD hS h => lv_iconst hC.1 hC.2.1 hdg hv (kk H locs ls hP hD hS h)
theorem pg_bipush (hC : pv_C κ p R s m args meth c y cc nL Ts rt A) {n : Int} {v : Int32} (hdg : decode cc pc = .ok (.bipush n, 2)) (hv : (Int8.ofInt n).toInt32 = v) (kk : pv_G κ p l e R s m args below meth c Q A nL cells slots L f (pc + 2) vs (.int v :: st)) : pv_G κ p l e R s m args below meth c Q A nL cells slots L f pc vs st := fun H locs ls hP hD hS h => lv_bipush hC.1 hC.2.1 hdg hv (kk H locs ls hP hD hS h)
theorem pg_sipush (hC : pv_C κ p R s m args meth c y cc nL Ts rt A) {n : Int} {v : Int32} (hdg : decode cc pc = .ok (.sipush n, 3)) (hv : (Int16.ofInt n).toInt32 = v) (kk : pv_G κ p l e R s m args below meth c Q A nL cells slots L f (pc + 3) vs (.int v :: st)) : pv_G κ p l e R s m args below meth c Q A nL cells slots L f pc vs st := fun H locs ls hP hD hS h => lv_sipush hC.1 hC.2.1 hdg hv (kk H locs ls hP hD hS h)
theorem pg_lconst (hC : pv_C κ p R s m args meth c y cc nL Ts rt A) {n : Fin 2} {v : Int64} (hdg : decode cc pc = .ok (.lconst n, 1)) (hv : Int64.ofNat (n : Nat) = v) (kk : pv_G κ p l e R s m args below meth c Q A nL cells slots L f (pc + 1) vs (.long v :: st)) : pv_G κ p l e R s m args below meth c Q A nL cells slots L f pc vs st := fun H locs ls hP hD hS h => lv_lconst hC.1 hC.2.1 hdg hv (kk H locs ls hP hD hS h)
theorem pg_ldc2 (hC : pv_C κ p R s m args meth c y cc nL Ts rt A) {index : Nat} {v : Int64} (hdg : decode cc pc = .ok (.ldc2_w index, 3)) (hw : Cond.constantLong y.cls index v ∈ Ts) (kk : pv_G κ p l e R s m args below meth c Q A nL cells slots L f (pc + 3) vs (.long v :: st)) : pv_G κ p l e R s m args below meth c Q A nL cells slots L f pc vs st := fun H locs ls hP hD hS h => lv_ldc2 hC.1 hC.2.1 hC.2.2.2.1 (hC.2.2.2.2.1 _ hw) hdg (kk H locs ls hP hD hS h)
theorem pg_iload_n (hC : pv_C κ p R s m args meth c y cc nL Ts rt A) {k : Fin 4} {i : Nat} {x : Int32} (hdg : decode cc pc = .ok (.iload_n k, 1)) (j : Nat) (hl : vs[j]? = some (i, .int x)) (hi : (k : Nat) = i) (kk : pv_G κ p l e R s m args below meth c Q A nL cells slots L f (pc + 1) vs (.int x :: st)) : pv_G κ p l e R s m args below meth c Q A nL cells slots L f pc vs st := fun H locs ls hP hD hS h => lv_iload_n hC.1 hC.2.1 hdg hi (lv_at h j hl) (kk H locs ls hP hD hS h)
theorem pg_iload (hC : pv_C κ p R s m args meth c y cc nL Ts rt A) {i : Nat} {x : Int32} (hdg : decode cc pc = .ok (.iload i, 2)) (j : Nat) (hl : vs[j]? = some (i, .int x)) (kk : pv_G κ p l e R s m args below meth c Q A nL cells slots L f (pc + 2) vs (.int x :: st)) : pv_G κ p l e R s m args below meth c Q A nL cells slots L f pc vs st := fun H locs ls hP hD hS h => lv_iload hC.1 hC.2.1 hdg (lv_at h j hl) (kk H locs ls hP hD hS h)
theorem pg_lload_n (hC : pv_C κ p R s m args meth c y cc nL Ts rt A) {k : Fin 4} {i : Nat} {x : Int64} (hdg : decode cc pc = .ok (.lload_n k, 1)) (j : Nat) (hl : vs[j]? = some (i, .long x)) (hi : (k : Nat) = i) (kk : pv_G κ p l e R s m args below meth c Q A nL cells slots L f (pc + 1) vs (.long x :: st)) : pv_G κ p l e R s m args below meth c Q A nL cells slots L f pc vs st := fun H locs ls hP hD hS h => lv_lload_n hC.1 hC.2.1 hdg hi (lv_at h j hl) (kk H locs ls hP hD hS h)
theorem pg_lload (hC : pv_C κ p R s m args meth c y cc nL Ts rt A) {i : Nat} {x : Int64} (hdg : decode cc pc = .ok (.lload i, 2)) (j : Nat) (hl : vs[j]? = some (i, .long x)) (kk : pv_G κ p l e R s m args below meth c Q A nL cells slots L f (pc + 2) vs (.long x :: st)) : pv_G κ p l e R s m args below meth c Q A nL cells slots L f pc vs st := fun H locs ls hP hD hS h => lv_lload hC.1 hC.2.1 hdg (lv_at h j hl) (kk H locs ls hP hD hS h)
theorem pg_aload_n (hC : pv_C κ p R s m args meth c y cc nL Ts rt A) {k : Fin 4} {i : Nat} {x : Nat} (hdg : decode cc pc = .ok (.aload_n k, 1)) (j : Nat) (hl : vs[j]? = some (i, .ref x)) (hi : (k : Nat) = i) (kk : pv_G κ p l e R s m args below meth c Q A nL cells slots L f (pc + 1) vs (.ref x :: st)) : pv_G κ p l e R s m args below meth c Q A nL cells slots L f pc vs st := fun H locs ls hP hD hS h => lv_aload_n hC.1 hC.2.1 hdg hi (lv_at h j hl) (kk H locs ls hP hD hS h)
theorem pg_aload (hC : pv_C κ p R s m args meth c y cc nL Ts rt A) {i : Nat} {x : Nat} (hdg : decode cc pc = .ok (.aload i, 2)) (j : Nat) (hl : vs[j]? = some (i, .ref x)) (kk : pv_G κ p l e R s m args below meth c Q A nL cells slots L f (pc + 2) vs (.ref x :: st)) : pv_G κ p l e R s m args below meth c Q A nL cells slots L f pc vs st := fun H locs ls hP hD hS h => lv_aload hC.1 hC.2.1 hdg (lv_at h j hl) (kk H locs ls hP hD hS h)
theorem pg_istore_n (hC : pv_C κ p R s m args meth c y cc nL Ts rt A) {k : Fin 4} {i : Nat} {x : Int32} {vs' : List (Nat × Value)} (hdg : decode cc pc = .ok (.istore_n k, 1)) (hi : (k : Nat) = i) (hn : i < nL) (hl : (i, Value.int x) :: vs.filter (fun q => !(q.1 == i) && !(q.1 + 1 == i && q.2.category == 2)) = vs') (kk : pv_G κ p l e R s m args below meth c Q A nL cells slots L f (pc + 1) vs' st) : pv_G κ p l e R s m args below meth c Q A nL cells slots L f pc vs (.int x :: st) := fun H locs ls hP hD hS h => lv_istore_n hC.1 hC.2.1 hdg hi h hn hl (fun ls' h' => kk H locs ls' hP hD hS h')
theorem pg_istore (hC : pv_C κ p R s m args meth c y cc nL Ts rt A) {i : Nat} {x : Int32} {vs' : List (Nat × Value)} (hdg : decode cc pc = .ok (.istore i, 2)) (hn : i < nL) (hl : (i, Value.int x) :: vs.filter (fun q => !(q.1 == i) && !(q.1 + 1 == i && q.2.category == 2)) = vs') (kk : pv_G κ p l e R s m args below meth c Q A nL cells slots L f (pc + 2) vs' st) : pv_G κ p l e R s m args below meth c Q A nL cells slots L f pc vs (.int x :: st) := fun H locs ls hP hD hS h => lv_istore hC.1 hC.2.1 hdg h hn hl (fun ls' h' => kk H locs ls' hP hD hS h')
theorem pg_lstore_n (hC : pv_C κ p R s m args meth c y cc nL Ts rt A) {k : Fin 4} {i : Nat} {x : Int64} {vs' : List (Nat × Value)} (hdg : decode cc pc = .ok (.lstore_n k, 1)) (hi : (k : Nat) = i) (hn : i + 1 < nL) (hl : (i, Value.long x) :: vs.filter (fun q => !(q.1 == i) && (!(q.1 == i + 1) && !(q.1 + 1 == i && q.2.category == 2))) = vs') (kk : pv_G κ p l e R s m args below meth c Q A nL cells slots L f (pc + 1) vs' st) : pv_G κ p l e R s m args below meth c Q A nL cells slots L f pc vs (.long x :: st) := fun H locs ls hP hD hS h => lv_lstore_n hC.1 hC.2.1 hdg hi h hn hl (fun ls' h' => kk H locs ls' hP hD hS h')
theorem pg_lstore (hC : pv_C κ p R s m args meth c y cc nL Ts rt A) {i : Nat} {x : Int64} {vs' : List (Nat × Value)} (hdg : decode cc pc = .ok (.lstore i, 2)) (hn : i + 1 < nL) (hl : (i, Value.long x) :: vs.filter (fun q => !(q.1 == i) && (!(q.1 == i + 1) && !(q.1 + 1 == i && q.2.category == 2))) = vs') (kk : pv_G κ p l e R s m args below meth c Q A nL cells slots L f (pc + 2) vs' st) : pv_G κ p l e R s m args below meth c Q A nL cells slots L f pc vs (.long x :: st) := fun H locs ls hP hD hS h => lv_lstore hC.1 hC.2.1 hdg h hn hl (fun ls' h' => kk H locs ls' hP hD hS h')
theorem pg_astore_n (hC : pv_C κ p R s m args meth c y cc nL Ts rt A) {k : Fin 4} {i : Nat} {x : Nat} {vs' : List (Nat × Value)} (hdg : decode cc pc = .ok (.astore_n k, 1)) (hi : (k : Nat) = i) (hn : i < nL) (hl : (i, Value.ref x) :: vs.filter (fun q => !(q.1 == i) && !(q.1 + 1 == i && q.2.category == 2)) = vs') (kk : pv_G κ p l e R s m args below meth c Q A nL cells slots L f (pc + 1) vs' st) : pv_G κ p l e R s m args below meth c Q A nL cells slots L f pc vs (.ref x :: st) := fun H locs ls hP hD hS h => lv_astore_n hC.1 hC.2.1 hdg hi h hn hl (fun ls' h' => kk H locs ls' hP hD hS h')
theorem pg_astore (hC : pv_C κ p R s m args meth c y cc nL Ts rt A) {i : Nat} {x : Nat} {vs' : List (Nat × Value)} (hdg : decode cc pc = .ok (.astore i, 2)) (hn : i < nL) (hl : (i, Value.ref x) :: vs.filter (fun q => !(q.1 == i) && !(q.1 + 1 == i && q.2.category == 2)) = vs') (kk : pv_G κ p l e R s m args below meth c Q A nL cells slots L f (pc + 2) vs' st) : pv_G κ p l e R s m args below meth c Q A nL cells slots L f pc vs (.ref x :: st) := fun H locs ls hP hD hS h => lv_astore hC.1 hC.2.1 hdg h hn hl (fun ls' h' => kk H locs ls' hP hD hS h')
theorem pg_iinc (hC : pv_C κ p R s m args meth c y cc nL Ts rt A) {i : Nat} {n : Int} {x v : Int32} {vs' : List (Nat × Value)} (hdg : decode cc pc = .ok (.iinc i n, 3)) (j : Nat) (hk : vs[j]? = some (i, .int x)) (hv : x + Int32.ofInt n = v) (hn : i < nL) (hl : (i, Value.int v) :: vs.filter (fun q => !(q.1 == i) && !(q.1 + 1 == i && q.2.category == 2)) = vs') (kk : pv_G κ p l e R s m args below meth c Q A nL cells slots L f (pc + 3) vs' st) : pv_G κ p l e R s m args below meth c Q A nL cells slots L f pc vs st := fun H locs ls hP hD hS h => lv_iinc hC.1 hC.2.1 hdg h hk hv hn hl (fun ls' h' => kk H locs ls' hP hD hS h')
theorem pg_iadd (hC : pv_C κ p R s m args meth c y cc nL Ts rt A) {x y v : Int32} (hdg : decode cc pc = .ok (.iadd, 1)) (hv : x + y = v) (kk : pv_G κ p l e R s m args below meth c Q A nL cells slots L f (pc + 1) vs (.int v :: st)) : pv_G κ p l e R s m args below meth c Q A nL cells slots L f pc vs (.int y :: .int x :: st) := fun H locs ls hP hD hS h => by subst hv; exact lv_iadd hC.1 hC.2.1 hdg (kk H locs ls hP hD hS h)
theorem pg_isub (hC : pv_C κ p R s m args meth c y cc nL Ts rt A) {x y v : Int32} (hdg : decode cc pc = .ok (.isub, 1)) (hv : x - y = v) (kk : pv_G κ p l e R s m args below meth c Q A nL cells slots L f (pc + 1) vs (.int v :: st)) : pv_G κ p l e R s m args below meth c Q A nL cells slots L f pc vs (.int y :: .int x :: st) := fun H locs ls hP hD hS h => by subst hv; exact lv_isub hC.1 hC.2.1 hdg (kk H locs ls hP hD hS h)
theorem pg_imul (hC : pv_C κ p R s m args meth c y cc nL Ts rt A) {x y v : Int32} (hdg : decode cc pc = .ok (.imul, 1)) (hv : x * y = v) (kk : pv_G κ p l e R s m args below meth c Q A nL cells slots L f (pc + 1) vs (.int v :: st)) : pv_G κ p l e R s m args below meth c Q A nL cells slots L f pc vs (.int y :: .int x :: st) := fun H locs ls hP hD hS h => by subst hv; exact lv_imul hC.1 hC.2.1 hdg (kk H locs ls hP hD hS h)
theorem pg_iand (hC : pv_C κ p R s m args meth c y cc nL Ts rt A) {x y v : Int32} (hdg : decode cc pc = .ok (.iand, 1)) (hv : x &&& y = v) (kk : pv_G κ p l e R s m args below meth c Q A nL cells slots L f (pc + 1) vs (.int v :: st)) : pv_G κ p l e R s m args below meth c Q A nL cells slots L f pc vs (.int y :: .int x :: st) := fun H locs ls hP hD hS h => by subst hv; exact lv_iand hC.1 hC.2.1 hdg (kk H locs ls hP hD hS h)
theorem pg_ior (hC : pv_C κ p R s m args meth c y cc nL Ts rt A) {x y v : Int32} (hdg : decode cc pc = .ok (.ior, 1)) (hv : x ||| y = v) (kk : pv_G κ p l e R s m args below meth c Q A nL cells slots L f (pc + 1) vs (.int v :: st)) : pv_G κ p l e R s m args below meth c Q A nL cells slots L f pc vs (.int y :: .int x :: st) := fun H locs ls hP hD hS h => by subst hv; exact lv_ior hC.1 hC.2.1 hdg (kk H locs ls hP hD hS h)
theorem pg_ixor (hC : pv_C κ p R s m args meth c y cc nL Ts rt A) {x y v : Int32} (hdg : decode cc pc = .ok (.ixor, 1)) (hv : x ^^^ y = v) (kk : pv_G κ p l e R s m args below meth c Q A nL cells slots L f (pc + 1) vs (.int v :: st)) : pv_G κ p l e R s m args below meth c Q A nL cells slots L f pc vs (.int y :: .int x :: st) := fun H locs ls hP hD hS h => by subst hv; exact lv_ixor hC.1 hC.2.1 hdg (kk H locs ls hP hD hS h)
theorem pg_ishl (hC : pv_C κ p R s m args meth c y cc nL Ts rt A) {x y v : Int32} (hdg : decode cc pc = .ok (.ishl, 1)) (hv : x <<< (y &&& 31) = v) (kk : pv_G κ p l e R s m args below meth c Q A nL cells slots L f (pc + 1) vs (.int v :: st)) : pv_G κ p l e R s m args below meth c Q A nL cells slots L f pc vs (.int y :: .int x :: st) := fun H locs ls hP hD hS h => by subst hv; exact lv_ishl hC.1 hC.2.1 hdg (kk H locs ls hP hD hS h)
theorem pg_ishr (hC : pv_C κ p R s m args meth c y cc nL Ts rt A) {x y v : Int32} (hdg : decode cc pc = .ok (.ishr, 1)) (hv : x >>> (y &&& 31) = v) (kk : pv_G κ p l e R s m args below meth c Q A nL cells slots L f (pc + 1) vs (.int v :: st)) : pv_G κ p l e R s m args below meth c Q A nL cells slots L f pc vs (.int y :: .int x :: st) := fun H locs ls hP hD hS h => by subst hv; exact lv_ishr hC.1 hC.2.1 hdg (kk H locs ls hP hD hS h)
theorem pg_idiv (hC : pv_C κ p R s m args meth c y cc nL Ts rt A) {x y v : Int32} (hdg : decode cc pc = .ok (.idiv, 1)) (hne : ¬ y = 0) (hv : x / y = v) (kk : pv_G κ p l e R s m args below meth c Q A nL cells slots L f (pc + 1) vs (.int v :: st)) : pv_G κ p l e R s m args below meth c Q A nL cells slots L f pc vs (.int y :: .int x :: st) := fun H locs ls hP hD hS h => by subst hv; exact lv_idiv hC.1 hC.2.1 hdg hne (kk H locs ls hP hD hS h)
theorem pg_irem (hC : pv_C κ p R s m args meth c y cc nL Ts rt A) {x y v : Int32} (hdg : decode cc pc = .ok (.irem, 1)) (hne : ¬ y = 0) (hv : x - x / y * y = v) (kk : pv_G κ p l e R s m args below meth c Q A nL cells slots L f (pc + 1) vs (.int v :: st)) : pv_G κ p l e R s m args below meth c Q A nL cells slots L f pc vs (.int y :: .int x :: st) := fun H locs ls hP hD hS h => by subst hv; exact lv_irem hC.1 hC.2.1 hdg hne (kk H locs ls hP hD hS h)
theorem pg_ladd (hC : pv_C κ p R s m args meth c y cc nL Ts rt A) {x y v : Int64} (hdg : decode cc pc = .ok (.ladd, 1)) (hv : x + y = v) (kk : pv_G κ p l e R s m args below meth c Q A nL cells slots L f (pc + 1) vs (.long v :: st)) : pv_G κ p l e R s m args below meth c Q A nL cells slots L f pc vs (.long y :: .long x :: st) := fun H locs ls hP hD hS h => by subst hv; exact lv_ladd hC.1 hC.2.1 hdg (kk H locs ls hP hD hS h)
theorem pg_lsub (hC : pv_C κ p R s m args meth c y cc nL Ts rt A) {x y v : Int64} (hdg : decode cc pc = .ok (.lsub, 1)) (hv : x - y = v) (kk : pv_G κ p l e R s m args below meth c Q A nL cells slots L f (pc + 1) vs (.long v :: st)) : pv_G κ p l e R s m args below meth c Q A nL cells slots L f pc vs (.long y :: .long x :: st) := fun H locs ls hP hD hS h => by subst hv; exact lv_lsub hC.1 hC.2.1 hdg (kk H locs ls hP hD hS h)
theorem pg_land (hC : pv_C κ p R s m args meth c y cc nL Ts rt A) {x y v : Int64} (hdg : decode cc pc = .ok (.land, 1)) (hv : x &&& y = v) (kk : pv_G κ p l e R s m args below meth c Q A nL cells slots L f (pc + 1) vs (.long v :: st)) : pv_G κ p l e R s m args below meth c Q A nL cells slots L f pc vs (.long y :: .long x :: st) := fun H locs ls hP hD hS h => by subst hv; exact lv_land hC.1 hC.2.1 hdg (kk H locs ls hP hD hS h)
theorem pg_lor (hC : pv_C κ p R s m args meth c y cc nL Ts rt A) {x y v : Int64} (hdg : decode cc pc = .ok (.lor, 1)) (hv : x ||| y = v) (kk : pv_G κ p l e R s m args below meth c Q A nL cells slots L f (pc + 1) vs (.long v :: st)) : pv_G κ p l e R s m args below meth c Q A nL cells slots L f pc vs (.long y :: .long x :: st) := fun H locs ls hP hD hS h => by subst hv; exact lv_lor hC.1 hC.2.1 hdg (kk H locs ls hP hD hS h)
theorem pg_lcmp (hC : pv_C κ p R s m args meth c y cc nL Ts rt A) {x y : Int64} (hdg : decode cc pc = .ok (.lcmp, 1)) (kk : pv_G κ p l e R s m args below meth c Q A nL cells slots L f (pc + 1) vs (.int (lg_cmp x y) :: st)) : pv_G κ p l e R s m args below meth c Q A nL cells slots L f pc vs (.long y :: .long x :: st) := fun H locs ls hP hD hS h => W.lcmp hC.1 hC.2.1 hdg (kk H locs ls hP hD hS h)
theorem pg_i2l (hC : pv_C κ p R s m args meth c y cc nL Ts rt A) {x : Int32} {v : Int64} (hdg : decode cc pc = .ok (.i2l, 1)) (hv : x.toInt64 = v) (kk : pv_G κ p l e R s m args below meth c Q A nL cells slots L f (pc + 1) vs (.long v :: st)) : pv_G κ p l e R s m args below meth c Q A nL cells slots L f pc vs (.int x :: st) := fun H locs ls hP hD hS h => lv_i2l hC.1 hC.2.1 hdg hv (kk H locs ls hP hD hS h)
theorem pg_l2i (hC : pv_C κ p R s m args meth c y cc nL Ts rt A) {x : Int64} {v : Int32} (hdg : decode cc pc = .ok (.l2i, 1)) (hv : x.toInt32 = v) (kk : pv_G κ p l e R s m args below meth c Q A nL cells slots L f (pc + 1) vs (.int v :: st)) : pv_G κ p l e R s m args below meth c Q A nL cells slots L f pc vs (.long x :: st) := fun H locs ls hP hD hS h => lv_l2i hC.1 hC.2.1 hdg hv (kk H locs ls hP hD hS h)
theorem pg_i2c (hC : pv_C κ p R s m args meth c y cc nL Ts rt A) {x : Int32} {v : Int32} (hdg : decode cc pc = .ok (.i2c, 1)) (hv : (x.toUInt32 % 65536).toInt32 = v) (kk : pv_G κ p l e R s m args below meth c Q A nL cells slots L f (pc + 1) vs (.int v :: st)) : pv_G κ p l e R s m args below meth c Q A nL cells slots L f pc vs (.int x :: st) := fun H locs ls hP hD hS h => lv_i2c hC.1 hC.2.1 hdg hv (kk H locs ls hP hD hS h)
theorem pg_lushr (hC : pv_C κ p R s m args meth c y cc nL Ts rt A) {x v : Int64} {y : Int32} (hdg : decode cc pc = .ok (.lushr, 1)) (hv : (x.toUInt64 >>> (y.toInt64.toUInt64 &&& Int64.toUInt64 63)).toInt64 = v) (kk : pv_G κ p l e R s m args below meth c Q A nL cells slots L f (pc + 1) vs (.long v :: st)) : pv_G κ p l e R s m args below meth c Q A nL cells slots L f pc vs (.int y :: .long x :: st) := fun H locs ls hP hD hS h => lv_lushr hC.1 hC.2.1 hdg hv (kk H locs ls hP hD hS h)
theorem pg_lshl (hC : pv_C κ p R s m args meth c y cc nL Ts rt A) {x v : Int64} {y : Int32} (hdg : decode cc pc = .ok (.lshl, 1)) (hv : x <<< (y.toInt64 &&& 63) = v) (kk : pv_G κ p l e R s m args below meth c Q A nL cells slots L f (pc + 1) vs (.long v :: st)) : pv_G κ p l e R s m args below meth c Q A nL cells slots L f pc vs (.int y :: .long x :: st) := fun H locs ls hP hD hS h => lv_lshl hC.1 hC.2.1 hdg hv (kk H locs ls hP hD hS h)
theorem pg_dup (hC : pv_C κ p R s m args meth c y cc nL Ts rt A) {va : Value} (hdg : decode cc pc = .ok (.dup, 1)) (hva : va.category = 1) (kk : pv_G κ p l e R s m args below meth c Q A nL cells slots L f (pc + 1) vs (va :: va :: st)) : pv_G κ p l e R s m args below meth c Q A nL cells slots L f pc vs (va :: st) := fun H locs ls hP hD hS h => lv_dup hC.1 hC.2.1 hdg hva (kk H locs ls hP hD hS h)
theorem pg_pop (hC : pv_C κ p R s m args meth c y cc nL Ts rt A) {va : Value} (hdg : decode cc pc = .ok (.pop, 1)) (hva : va.category = 1) (kk : pv_G κ p l e R s m args below meth c Q A nL cells slots L f (pc + 1) vs st) : pv_G κ p l e R s m args below meth c Q A nL cells slots L f pc vs (va :: st) := fun H locs ls hP hD hS h => lv_pop hC.1 hC.2.1 hdg hva (kk H locs ls hP hD hS h)
theorem pg_dup_x1 (hC : pv_C κ p R s m args meth c y cc nL Ts rt A) {va vb : Value} (hdg : decode cc pc = .ok (.dup_x1, 1)) (hva : va.category = 1) (hvb : vb.category = 1) (kk : pv_G κ p l e R s m args below meth c Q A nL cells slots L f (pc + 1) vs (va :: vb :: va :: st)) : pv_G κ p l e R s m args below meth c Q A nL cells slots L f pc vs (va :: vb :: st) := fun H locs ls hP hD hS h => lv_dup_x1 hC.1 hC.2.1 hdg hva hvb (kk H locs ls hP hD hS h)
theorem pg_dup2 (hC : pv_C κ p R s m args meth c y cc nL Ts rt A) {va vb : Value} (hdg : decode cc pc = .ok (.dup2, 1)) (hva : va.category = 1) (hvb : vb.category = 1) (kk : pv_G κ p l e R s m args below meth c Q A nL cells slots L f (pc + 1) vs (va :: vb :: va :: vb :: st)) : pv_G κ p l e R s m args below meth c Q A nL cells slots L f pc vs (va :: vb :: st) := fun H locs ls hP hD hS h => lv_dup2_11 hC.1 hC.2.1 hdg hva hvb (kk H locs ls hP hD hS h)
theorem pg_icmp_eq (hC : pv_C κ p R s m args meth c y cc nL Ts rt A) {x y : Int32} {off : Int} (tgt : Nat) (hdg : decode cc pc = .ok (.if_icmp .eq off, 3)) (ht : (pc : Int) + off = (tgt : Int)) (kt : x = y → pv_G κ p l e R s m args below meth c Q A nL cells slots L f tgt vs st) (kf : ¬ x = y → pv_G κ p l e R s m args below meth c Q A nL cells slots L f (pc + 3) vs st) : pv_G κ p l e R s m args below meth c Q A nL cells slots L f pc vs (.int y :: .int x :: st) := fun H locs ls hP hD hS h => lv_icmp_eq hC.1 hC.2.1 hdg ht (fun q => kt q H locs ls hP hD hS h) (fun q => kf q H locs ls hP hD hS h)
theorem pg_if_eq (hC : pv_C κ p R s m args meth c y cc nL Ts rt A) {x : Int32} {off : Int} (tgt : Nat) (hdg : decode cc pc = .ok (.ifCond .eq off, 3)) (ht : (pc : Int) + off = (tgt : Int)) (kt : x = 0 → pv_G κ p l e R s m args below meth c Q A nL cells slots L f tgt vs st) (kf : ¬ x = 0 → pv_G κ p l e R s m args below meth c Q A nL cells slots L f (pc + 3) vs st) : pv_G κ p l e R s m args below meth c Q A nL cells slots L f pc vs (.int x :: st) := fun H locs ls hP hD hS h => lv_if_eq hC.1 hC.2.1 hdg ht (fun q => kt q H locs ls hP hD hS h) (fun q => kf q H locs ls hP hD hS h)
theorem pg_icmp_ne (hC : pv_C κ p R s m args meth c y cc nL Ts rt A) {x y : Int32} {off : Int} (tgt : Nat) (hdg : decode cc pc = .ok (.if_icmp .ne off, 3)) (ht : (pc : Int) + off = (tgt : Int)) (kt : ¬ x = y → pv_G κ p l e R s m args below meth c Q A nL cells slots L f tgt vs st) (kf : x = y → pv_G κ p l e R s m args below meth c Q A nL cells slots L f (pc + 3) vs st) : pv_G κ p l e R s m args below meth c Q A nL cells slots L f pc vs (.int y :: .int x :: st) := fun H locs ls hP hD hS h => lv_icmp_ne hC.1 hC.2.1 hdg ht (fun q => kt q H locs ls hP hD hS h) (fun q => kf q H locs ls hP hD hS h)
theorem pg_if_ne (hC : pv_C κ p R s m args meth c y cc nL Ts rt A) {x : Int32} {off : Int} (tgt : Nat) (hdg : decode cc pc = .ok (.ifCond .ne off, 3)) (ht : (pc : Int) + off = (tgt : Int)) (kt : ¬ x = 0 → pv_G κ p l e R s m args below meth c Q A nL cells slots L f tgt vs st) (kf : x = 0 → pv_G κ p l e R s m args below meth c Q A nL cells slots L f (pc + 3) vs st) : pv_G κ p l e R s m args below meth c Q A nL cells slots L f pc vs (.int x :: st) := fun H locs ls hP hD hS h => lv_if_ne hC.1 hC.2.1 hdg ht (fun q => kt q H locs ls hP hD hS h) (fun q => kf q H locs ls hP hD hS h)
theorem pg_icmp_lt (hC : pv_C κ p R s m args meth c y cc nL Ts rt A) {x y : Int32} {off : Int} (tgt : Nat) (hdg : decode cc pc = .ok (.if_icmp .lt off, 3)) (ht : (pc : Int) + off = (tgt : Int)) (kt : x < y → pv_G κ p l e R s m args below meth c Q A nL cells slots L f tgt vs st) (kf : ¬ x < y → pv_G κ p l e R s m args below meth c Q A nL cells slots L f (pc + 3) vs st) : pv_G κ p l e R s m args below meth c Q A nL cells slots L f pc vs (.int y :: .int x :: st) := fun H locs ls hP hD hS h => lv_icmp_lt hC.1 hC.2.1 hdg ht (fun q => kt q H locs ls hP hD hS h) (fun q => kf q H locs ls hP hD hS h)
theorem pg_if_lt (hC : pv_C κ p R s m args meth c y cc nL Ts rt A) {x : Int32} {off : Int} (tgt : Nat) (hdg : decode cc pc = .ok (.ifCond .lt off, 3)) (ht : (pc : Int) + off = (tgt : Int)) (kt : x < 0 → pv_G κ p l e R s m args below meth c Q A nL cells slots L f tgt vs st) (kf : ¬ x < 0 → pv_G κ p l e R s m args below meth c Q A nL cells slots L f (pc + 3) vs st) : pv_G κ p l e R s m args below meth c Q A nL cells slots L f pc vs (.int x :: st) := fun H locs ls hP hD hS h => lv_if_lt hC.1 hC.2.1 hdg ht (fun q => kt q H locs ls hP hD hS h) (fun q => kf q H locs ls hP hD hS h)
theorem pg_icmp_ge (hC : pv_C κ p R s m args meth c y cc nL Ts rt A) {x y : Int32} {off : Int} (tgt : Nat) (hdg : decode cc pc = .ok (.if_icmp .ge off, 3)) (ht : (pc : Int) + off = (tgt : Int)) (kt : y ≤ x → pv_G κ p l e R s m args below meth c Q A nL cells slots L f tgt vs st) (kf : ¬ y ≤ x → pv_G κ p l e R s m args below meth c Q A nL cells slots L f (pc + 3) vs st) : pv_G κ p l e R s m args below meth c Q A nL cells slots L f pc vs (.int y :: .int x :: st) := fun H locs ls hP hD hS h => lv_icmp_ge hC.1 hC.2.1 hdg ht (fun q => kt q H locs ls hP hD hS h) (fun q => kf q H locs ls hP hD hS h)
theorem pg_if_ge (hC : pv_C κ p R s m args meth c y cc nL Ts rt A) {x : Int32} {off : Int} (tgt : Nat) (hdg : decode cc pc = .ok (.ifCond .ge off, 3)) (ht : (pc : Int) + off = (tgt : Int)) (kt : 0 ≤ x → pv_G κ p l e R s m args below meth c Q A nL cells slots L f tgt vs st) (kf : ¬ 0 ≤ x → pv_G κ p l e R s m args below meth c Q A nL cells slots L f (pc + 3) vs st) : pv_G κ p l e R s m args below meth c Q A nL cells slots L f pc vs (.int x :: st) := fun H locs ls hP hD hS h => lv_if_ge hC.1 hC.2.1 hdg ht (fun q => kt q H locs ls hP hD hS h) (fun q => kf q H locs ls hP hD hS h)
theorem pg_icmp_gt (hC : pv_C κ p R s m args meth c y cc nL Ts rt A) {x y : Int32} {off : Int} (tgt : Nat) (hdg : decode cc pc = .ok (.if_icmp .gt off, 3)) (ht : (pc : Int) + off = (tgt : Int)) (kt : y < x → pv_G κ p l e R s m args below meth c Q A nL cells slots L f tgt vs st) (kf : ¬ y < x → pv_G κ p l e R s m args below meth c Q A nL cells slots L f (pc + 3) vs st) : pv_G κ p l e R s m args below meth c Q A nL cells slots L f pc vs (.int y :: .int x :: st) := fun H locs ls hP hD hS h => lv_icmp_gt hC.1 hC.2.1 hdg ht (fun q => kt q H locs ls hP hD hS h) (fun q => kf q H locs ls hP hD hS h)
theorem pg_if_gt (hC : pv_C κ p R s m args meth c y cc nL Ts rt A) {x : Int32} {off : Int} (tgt : Nat) (hdg : decode cc pc = .ok (.ifCond .gt off, 3)) (ht : (pc : Int) + off = (tgt : Int)) (kt : 0 < x → pv_G κ p l e R s m args below meth c Q A nL cells slots L f tgt vs st) (kf : ¬ 0 < x → pv_G κ p l e R s m args below meth c Q A nL cells slots L f (pc + 3) vs st) : pv_G κ p l e R s m args below meth c Q A nL cells slots L f pc vs (.int x :: st) := fun H locs ls hP hD hS h => lv_if_gt hC.1 hC.2.1 hdg ht (fun q => kt q H locs ls hP hD hS h) (fun q => kf q H locs ls hP hD hS h)
theorem pg_icmp_le (hC : pv_C κ p R s m args meth c y cc nL Ts rt A) {x y : Int32} {off : Int} (tgt : Nat) (hdg : decode cc pc = .ok (.if_icmp .le off, 3)) (ht : (pc : Int) + off = (tgt : Int)) (kt : x ≤ y → pv_G κ p l e R s m args below meth c Q A nL cells slots L f tgt vs st) (kf : ¬ x ≤ y → pv_G κ p l e R s m args below meth c Q A nL cells slots L f (pc + 3) vs st) : pv_G κ p l e R s m args below meth c Q A nL cells slots L f pc vs (.int y :: .int x :: st) := fun H locs ls hP hD hS h => lv_icmp_le hC.1 hC.2.1 hdg ht (fun q => kt q H locs ls hP hD hS h) (fun q => kf q H locs ls hP hD hS h)
theorem pg_if_le (hC : pv_C κ p R s m args meth c y cc nL Ts rt A) {x : Int32} {off : Int} (tgt : Nat) (hdg : decode cc pc = .ok (.ifCond .le off, 3)) (ht : (pc : Int) + off = (tgt : Int)) (kt : x ≤ 0 → pv_G κ p l e R s m args below meth c Q A nL cells slots L f tgt vs st) (kf : ¬ x ≤ 0 → pv_G κ p l e R s m args below meth c Q A nL cells slots L f (pc + 3) vs st) : pv_G κ p l e R s m args below meth c Q A nL cells slots L f pc vs (.int x :: st) := fun H locs ls hP hD hS h => lv_if_le hC.1 hC.2.1 hdg ht (fun q => kt q H locs ls hP hD hS h) (fun q => kf q H locs ls hP hD hS h)
theorem pg_icmp_eqN (hC : pv_C κ p R s m args meth c y cc nL Ts rt A) {x y : Int32} {off : Int} (tgt : Nat) (hdg : decode cc pc = .ok (.if_icmp .eq off, 3)) (ht : (pc : Int) + off = (tgt : Int)) (a b : Nat) (hx : x = nI a) (hy : y = nI b) (ha : a < 2 ^ 31) (hb : b < 2 ^ 31) (kt : a = b → pv_G κ p l e R s m args below meth c Q A nL cells slots L f tgt vs st) (kf : ¬ a = b → pv_G κ p l e R s m args below meth c Q A nL cells slots L f (pc + 3) vs st) : pv_G κ p l e R s m args below meth c Q A nL cells slots L f pc vs (.int y :: .int x :: st) := by
  subst hx; subst hy
  exact pg_icmp_eq hC tgt hdg ht (fun q => kt ((nI_eq ha hb).mp q)) (fun q => kf (fun z => q ((nI_eq ha hb).mpr z)))
theorem pg_icmp_neN (hC : pv_C κ p R s m args meth c y cc nL Ts rt A) {x y : Int32} {off : Int} (tgt : Nat) (hdg : decode cc pc = .ok (.if_icmp .ne off, 3)) (ht : (pc : Int) + off = (tgt : Int)) (a b : Nat) (hx : x = nI a) (hy : y = nI b) (ha : a < 2 ^ 31) (hb : b < 2 ^ 31) (kt : ¬ a = b → pv_G κ p l e R s m args below meth c Q A nL cells slots L f tgt vs st) (kf : a = b → pv_G κ p l e R s m args below meth c Q A nL cells slots L f (pc + 3) vs st) : pv_G κ p l e R s m args below meth c Q A nL cells slots L f pc vs (.int y :: .int x :: st) := by
  subst hx; subst hy
  exact pg_icmp_ne hC tgt hdg ht (fun q => kt (fun z => q ((nI_eq ha hb).mpr z))) (fun q => kf ((nI_eq ha hb).mp q))
theorem pg_icmp_ltN (hC : pv_C κ p R s m args meth c y cc nL Ts rt A) {x y : Int32} {off : Int} (tgt : Nat) (hdg : decode cc pc = .ok (.if_icmp .lt off, 3)) (ht : (pc : Int) + off = (tgt : Int)) (a b : Nat) (hx : x = nI a) (hy : y = nI b) (ha : a < 2 ^ 31) (hb : b < 2 ^ 31) (kt : a < b → pv_G κ p l e R s m args below meth c Q A nL cells slots L f tgt vs st) (kf : b ≤ a → pv_G κ p l e R s m args below meth c Q A nL cells slots L f (pc + 3) vs st) : pv_G κ p l e R s m args below meth c Q A nL cells slots L f pc vs (.int y :: .int x :: st) := by
  subst hx; subst hy
  exact pg_icmp_lt hC tgt hdg ht (fun q => kt ((nI_ltI ha hb).mp q)) (fun q => kf (Nat.le_of_not_lt (fun z => q ((nI_ltI ha hb).mpr z))))
theorem pg_icmp_geN (hC : pv_C κ p R s m args meth c y cc nL Ts rt A) {x y : Int32} {off : Int} (tgt : Nat) (hdg : decode cc pc = .ok (.if_icmp .ge off, 3)) (ht : (pc : Int) + off = (tgt : Int)) (a b : Nat) (hx : x = nI a) (hy : y = nI b) (ha : a < 2 ^ 31) (hb : b < 2 ^ 31) (kt : b ≤ a → pv_G κ p l e R s m args below meth c Q A nL cells slots L f tgt vs st) (kf : a < b → pv_G κ p l e R s m args below meth c Q A nL cells slots L f (pc + 3) vs st) : pv_G κ p l e R s m args below meth c Q A nL cells slots L f pc vs (.int y :: .int x :: st) := by
  subst hx; subst hy
  exact pg_icmp_ge hC tgt hdg ht (fun q => kt ((nI_leI hb ha).mp q)) (fun q => kf (Nat.lt_of_not_le (fun z => q ((nI_leI hb ha).mpr z))))
theorem pg_icmp_gtN (hC : pv_C κ p R s m args meth c y cc nL Ts rt A) {x y : Int32} {off : Int} (tgt : Nat) (hdg : decode cc pc = .ok (.if_icmp .gt off, 3)) (ht : (pc : Int) + off = (tgt : Int)) (a b : Nat) (hx : x = nI a) (hy : y = nI b) (ha : a < 2 ^ 31) (hb : b < 2 ^ 31) (kt : b < a → pv_G κ p l e R s m args below meth c Q A nL cells slots L f tgt vs st) (kf : a ≤ b → pv_G κ p l e R s m args below meth c Q A nL cells slots L f (pc + 3) vs st) : pv_G κ p l e R s m args below meth c Q A nL cells slots L f pc vs (.int y :: .int x :: st) := by
  subst hx; subst hy
  exact pg_icmp_gt hC tgt hdg ht (fun q => kt ((nI_ltI hb ha).mp q)) (fun q => kf (Nat.le_of_not_lt (fun z => q ((nI_ltI hb ha).mpr z))))
theorem pg_icmp_leN (hC : pv_C κ p R s m args meth c y cc nL Ts rt A) {x y : Int32} {off : Int} (tgt : Nat) (hdg : decode cc pc = .ok (.if_icmp .le off, 3)) (ht : (pc : Int) + off = (tgt : Int)) (a b : Nat) (hx : x = nI a) (hy : y = nI b) (ha : a < 2 ^ 31) (hb : b < 2 ^ 31) (kt : a ≤ b → pv_G κ p l e R s m args below meth c Q A nL cells slots L f tgt vs st) (kf : b < a → pv_G κ p l e R s m args below meth c Q A nL cells slots L f (pc + 3) vs st) : pv_G κ p l e R s m args below meth c Q A nL cells slots L f pc vs (.int y :: .int x :: st) := by
  subst hx; subst hy
  exact pg_icmp_le hC tgt hdg ht (fun q => kt ((nI_leI ha hb).mp q)) (fun q => kf (Nat.lt_of_not_le (fun z => q ((nI_leI ha hb).mpr z))))
theorem pg_goto (hC : pv_C κ p R s m args meth c y cc nL Ts rt A) {off : Int} (tgt : Nat) (hdg : decode cc pc = .ok (.goto off, 3)) (ht : (pc : Int) + off = (tgt : Int)) (kk : pv_G κ p l e R s m args below meth c Q A nL cells slots L f tgt vs st) : pv_G κ p l e R s m args below meth c Q A nL cells slots L f pc vs st := fun H locs ls hP hD hS h => lv_goto hC.1 hC.2.1 hdg ht (kk H locs ls hP hD hS h)
theorem pg_tabIn (hC : pv_C κ p R s m args meth c y cc nL Ts rt A) {dflt lo hi : Int} {offs : Array Int} {len : Nat} {x : Int32} {off : Int} (tgt : Nat) (hdg : decode cc pc = .ok (.tableswitch dflt lo hi offs, len)) (h1 : ¬ x.toInt < lo) (h2 : ¬ hi < x.toInt) (ho : offs[(x.toInt - lo).toNat]? = some off) (ht : (pc : Int) + off = (tgt : Int)) (kk : pv_G κ p l e R s m args below meth c Q A nL cells slots L f tgt vs st) : pv_G κ p l e R s m args below meth c Q A nL cells slots L f pc vs (.int x :: st) := fun H locs ls hP hD hS h => lv_tableIn hC.1 hC.2.1 hdg h1 h2 ho ht (kk H locs ls hP hD hS h)
theorem pg_tabOut (hC : pv_C κ p R s m args meth c y cc nL Ts rt A) {dflt lo hi : Int} {offs : Array Int} {len : Nat} {x : Int32} (tgt : Nat) (hdg : decode cc pc = .ok (.tableswitch dflt lo hi offs, len)) (h1 : x.toInt < lo ∨ hi < x.toInt) (ht : (pc : Int) + dflt = (tgt : Int)) (kk : pv_G κ p l e R s m args below meth c Q A nL cells slots L f tgt vs st) : pv_G κ p l e R s m args below meth c Q A nL cells slots L f pc vs (.int x :: st) := fun H locs ls hP hD hS h => lv_tableOut hC.1 hC.2.1 hdg h1 ht (kk H locs ls hP hD hS h)
theorem pv_at {D : va_G} {a : Nat} {H : Heap} {E : va_E} (hL : a ∈ L) (hf : f a = E) : ∃ k : Nat, (va_pl L f)[k]? = some (a, E) := by
  obtain ⟨k, hk⟩ := va_pl_get (X := []) (f := f) hL
  exact ⟨k, by rw [← hf]; exact hk⟩
theorem pv_set {a k : Nat} {E E' : va_E} (hD : va_D A (va_pl L f)) (hL : a ∈ L) (hf : f a = E) (hk : (va_pl L f)[k]? = some (a, E)) : (va_pl L f).set k (a, E') = va_pl L (va_up f a E') := va_pl_set (X := []) hD hL (by rw [hf]; exact hk)
theorem pg_get (hC : pv_C κ p R s m args meth c y cc nL Ts rt A) {C2 : String} {T : u_T} {N ci index a : Nat} {fs : List Value} {v : Value} (hdg : decode cc pc = .ok (.getfield index, 3)) (k : Nat) (hin : ∀ w ∈ u_ws C2 T N, w ∈ Ts) (hlink : Cond.fieldLink y.cls index C2 (T k).2.1 (T k).2.2.1 ∈ Ts) (hL : a ∈ L) (hf : f a = .inr (ci, fs)) (hcl : vwCl[ci]? = some (C2, T, N)) (hk : k < N) (hT : (T k).1 = C2) (hv : fs[k]? = some v) (kk : pv_G κ p l e R s m args below meth c Q A nL cells slots L f (pc + 3) vs (v :: st)) : pv_G κ p l e R s m args below meth c Q A nL cells slots L f pc vs (.ref a :: st) := fun H locs ls hP hD hS h => by
  obtain ⟨q0, hq⟩ := pv_at (D := κ.1) (H := H) hL hf
  exact va_get hC.1 hC.2.1 hC.2.2.2.2.1 hin hC.2.2.2.1 hC.2.2.2.2.2.2.2.1 hP q0 hq hcl k hk (hC.2.2.2.2.1 _ hlink) (fun x hx => by rw [hT] at hx; exact hx) hv hdg (kk H locs ls hP hD hS h)
theorem pg_put (hC : pv_C κ p R s m args meth c y cc nL Ts rt A) {C2 : String} {T : u_T} {N ci index a : Nat} {fs : List Value} {v : Value} {ty : FieldType} (hdg : decode cc pc = .ok (.putfield index, 3)) (k : Nat) (hin : ∀ w ∈ u_ws C2 T N, w ∈ Ts) (ty0 : Nat → FieldType) (hty : ∀ k, k < N → parseFieldDescriptor (T k).2.2.1 = some (ty0 k)) (hnm : ∀ a, a < N → ∀ b, b < N → a ≠ b → (T a).2.1 ≠ (T b).2.1) (hlink : Cond.fieldLink y.cls index C2 (T k).2.1 (T k).2.2.1 ∈ Ts) (hL : a ∈ L) (hf : f a = .inr (ci, fs)) (hcl : vwCl[ci]? = some (C2, T, N)) (hk : k < N) (hT : (T k).1 = C2) (hfin : (T k).2.2.2 = false) (hd : parseFieldDescriptor (T k).2.2.1 = some ty) (hn : narrow ty v = v) (hfit : fits ty v = true) (hl : k < fs.length) (kk : pv_G κ p l e R s m args below meth c Q A nL cells slots L (va_up f a (.inr (ci, fs.set k v))) (pc + 3) vs st) : pv_G κ p l e R s m args below meth c Q A nL cells slots L f pc vs (v :: .ref a :: st) := fun H locs ls hP hD hS h => by
  obtain ⟨q0, hq⟩ := pv_at (D := κ.1) (H := H) hL hf
  refine va_put hC.1 hC.2.1 hC.2.2.2.2.1 hin ty0 hty hnm hC.2.2.2.1 hC.2.2.2.2.2.2.2.1 hP hD hS q0 hq hcl k hk (hC.2.2.2.2.1 _ hlink) (fun x hx => by rw [hT] at hx; exact hx) hfin hd hn hfit hl hdg (fun H1 locs1 hP1 hD1 hS1 => ?_)
  rw [pv_set hD hL hf hq] at hP1 hD1
  exact kk H1 locs1 ls hP1 hD1 hS1 h
theorem pg_putF (hC : pv_C κ p R s m args meth c y cc nL Ts rt A) {C2 : String} {T : u_T} {N ci index a : Nat} {fs : List Value} {v : Value} {ty : FieldType} (hdg : decode cc pc = .ok (.putfield index, 3)) (k : Nat) (hin : ∀ w ∈ u_ws C2 T N, w ∈ Ts) (ty0 : Nat → FieldType) (hty : ∀ k, k < N → parseFieldDescriptor (T k).2.2.1 = some (ty0 k)) (hnm : ∀ a, a < N → ∀ b, b < N → a ≠ b → (T a).2.1 ≠ (T b).2.1) (hlink : Cond.fieldLink y.cls index C2 (T k).2.1 (T k).2.2.1 ∈ Ts) (hL : a ∈ L) (hf : f a = .inr (ci, fs)) (hcl : vwCl[ci]? = some (C2, T, N)) (hk : k < N) (hT : (T k).1 = C2) (hfin : (T k).2.2.2 = true) (hini : y.name = "<init>") (hdecl : (T k).1 = y.cls) (hd : parseFieldDescriptor (T k).2.2.1 = some ty) (hn : narrow ty v = v) (hfit : fits ty v = true) (hl : k < fs.length) (kk : pv_G κ p l e R s m args below meth c Q A nL cells slots L (va_up f a (.inr (ci, fs.set k v))) (pc + 3) vs st) : pv_G κ p l e R s m args below meth c Q A nL cells slots L f pc vs (v :: .ref a :: st) := fun H locs ls hP hD hS h => by
  obtain ⟨q0, hq⟩ := pv_at (D := κ.1) (H := H) hL hf
  refine va_putF hC.1 hC.2.1 hC.2.2.2.2.1 hin ty0 hty hnm hC.2.2.2.1 hC.2.2.2.2.2.2.2.1 hP hD hS q0 hq hcl k hk (hC.2.2.2.2.1 _ hlink) (fun x hx => by rw [hT] at hx; exact hx) hfin (hC.2.2.2.2.2.2.2.2.2.2.trans hini) hdecl hd hn hfit hl hdg (fun H1 locs1 hP1 hD1 hS1 => ?_)
  rw [pv_set hD hL hf hq] at hP1 hD1
  exact kk H1 locs1 ls hP1 hD1 hS1 h
theorem pg_iald (hC : pv_C κ p R s m args meth c y cc nL Ts rt A) {a n : Nat} {row : Nat → Int32} {i : Int32} {v : Int32} (hdg : decode cc pc = .ok (.iaload, 1)) (j : Nat) (hL : a ∈ L) (hf : f a = .inl (κ.2.1 1, n, .inl row)) (hi : i = nI j) (hj : j < n) (hn : n < 2 ^ 31) (hv : row j = v) (kk : pv_G κ p l e R s m args below meth c Q A nL cells slots L f (pc + 1) vs (.int v :: st)) : pv_G κ p l e R s m args below meth c Q A nL cells slots L f pc vs (.int i :: .ref a :: st) := fun H locs ls hP hD hS h => by
  obtain ⟨q0, hq⟩ := pv_at (D := κ.1) (H := H) hL hf
  subst hi; subst hv
  refine va_iald hC.1 hC.2.1 hC.2.2.2.2.2.2.2.1 hP q0 1 hq rfl (vp_in_nI hj hn) hdg ?_
  rw [nI_clamp (Nat.lt_trans hj hn)]
  exact kk H locs ls hP hD hS h
theorem pg_cald (hC : pv_C κ p R s m args meth c y cc nL Ts rt A) {a n : Nat} {row : Nat → Int32} {i : Int32} {v : Int32} (hdg : decode cc pc = .ok (.caload, 1)) (j : Nat) (hL : a ∈ L) (hf : f a = .inl (κ.2.1 0, n, .inl row)) (hi : i = nI j) (hj : j < n) (hn : n < 2 ^ 31) (hv : row j = v) (kk : pv_G κ p l e R s m args below meth c Q A nL cells slots L f (pc + 1) vs (.int v :: st)) : pv_G κ p l e R s m args below meth c Q A nL cells slots L f pc vs (.int i :: .ref a :: st) := fun H locs ls hP hD hS h => by
  obtain ⟨q0, hq⟩ := pv_at (D := κ.1) (H := H) hL hf
  subst hi; subst hv
  refine va_cald hC.1 hC.2.1 hC.2.2.2.2.2.2.2.1 hP q0 0 hq rfl (vp_in_nI hj hn) hdg ?_
  rw [nI_clamp (Nat.lt_trans hj hn)]
  exact kk H locs ls hP hD hS h
theorem pg_zald (hC : pv_C κ p R s m args meth c y cc nL Ts rt A) {a n : Nat} {row : Nat → Int32} {i : Int32} {v : Int32} (hdg : decode cc pc = .ok (.baload, 1)) (j : Nat) (hL : a ∈ L) (hf : f a = .inl (κ.2.1 2, n, .inl row)) (hi : i = nI j) (hj : j < n) (hn : n < 2 ^ 31) (hv : row j = v) (kk : pv_G κ p l e R s m args below meth c Q A nL cells slots L f (pc + 1) vs (.int v :: st)) : pv_G κ p l e R s m args below meth c Q A nL cells slots L f pc vs (.int i :: .ref a :: st) := fun H locs ls hP hD hS h => by
  obtain ⟨q0, hq⟩ := pv_at (D := κ.1) (H := H) hL hf
  subst hi; subst hv
  refine va_zald hC.1 hC.2.1 hC.2.2.2.2.2.2.2.1 hP q0 2 hq rfl (vp_in_nI hj hn) hdg ?_
  rw [nI_clamp (Nat.lt_trans hj hn)]
  exact kk H locs ls hP hD hS h
theorem pg_iast (hC : pv_C κ p R s m args meth c y cc nL Ts rt A) {a n : Nat} {row : Nat → Int32} {i x : Int32} (hdg : decode cc pc = .ok (.iastore, 1)) (j : Nat) (hL : a ∈ L) (hf : f a = .inl (κ.2.1 1, n, .inl row)) (hi : i = nI j) (hj : j < n) (hn : n < 2 ^ 31) (kk : pv_G κ p l e R s m args below meth c Q A nL cells slots L (va_up f a (.inl (κ.2.1 1, n, .inl (va_up row j x)))) (pc + 1) vs st) : pv_G κ p l e R s m args below meth c Q A nL cells slots L f pc vs (.int x :: .int i :: .ref a :: st) := fun H locs ls hP hD hS h => by
  obtain ⟨q0, hq⟩ := pv_at (D := κ.1) (H := H) hL hf
  subst hi
  refine va_iast hC.1 hC.2.1 hC.2.2.2.2.2.2.2.1 hP hD hS q0 1 hq rfl (vp_in_nI hj hn) hdg (fun H1 locs1 hP1 hD1 hS1 => ?_)
  rw [pv_set hD hL hf hq, nI_clamp (Nat.lt_trans hj hn)] at hP1 hD1
  exact kk H1 locs1 ls hP1 hD1 hS1 h
theorem pg_cast (hC : pv_C κ p R s m args meth c y cc nL Ts rt A) {a n : Nat} {row : Nat → Int32} {i x : Int32} (hdg : decode cc pc = .ok (.castore, 1)) (j : Nat) (hL : a ∈ L) (hf : f a = .inl (κ.2.1 0, n, .inl row)) (hi : i = nI j) (hj : j < n) (hn : n < 2 ^ 31) (hx : vp_nar .char x = x) (kk : pv_G κ p l e R s m args below meth c Q A nL cells slots L (va_up f a (.inl (κ.2.1 0, n, .inl (va_up row j x)))) (pc + 1) vs st) : pv_G κ p l e R s m args below meth c Q A nL cells slots L f pc vs (.int x :: .int i :: .ref a :: st) := fun H locs ls hP hD hS h => by
  obtain ⟨q0, hq⟩ := pv_at (D := κ.1) (H := H) hL hf
  subst hi
  refine va_cast hC.1 hC.2.1 hC.2.2.2.2.2.2.2.1 hP hD hS q0 0 hq rfl (vp_in_nI hj hn) hdg (fun H1 locs1 hP1 hD1 hS1 => ?_)
  rw [pv_set hD hL hf hq, nI_clamp (Nat.lt_trans hj hn)] at hP1 hD1
  rw [hx] at hP1 hD1
  exact kk H1 locs1 ls hP1 hD1 hS1 h
theorem pg_zast (hC : pv_C κ p R s m args meth c y cc nL Ts rt A) {a n : Nat} {row : Nat → Int32} {i x : Int32} (hdg : decode cc pc = .ok (.bastore, 1)) (j : Nat) (hL : a ∈ L) (hf : f a = .inl (κ.2.1 2, n, .inl row)) (hi : i = nI j) (hj : j < n) (hn : n < 2 ^ 31) (hx : vp_nar .boolean x = x) (kk : pv_G κ p l e R s m args below meth c Q A nL cells slots L (va_up f a (.inl (κ.2.1 2, n, .inl (va_up row j x)))) (pc + 1) vs st) : pv_G κ p l e R s m args below meth c Q A nL cells slots L f pc vs (.int x :: .int i :: .ref a :: st) := fun H locs ls hP hD hS h => by
  obtain ⟨q0, hq⟩ := pv_at (D := κ.1) (H := H) hL hf
  subst hi
  refine va_zast hC.1 hC.2.1 hC.2.2.2.2.2.2.2.1 hP hD hS q0 2 hq rfl (vp_in_nI hj hn) hdg (fun H1 locs1 hP1 hD1 hS1 => ?_)
  rw [pv_set hD hL hf hq, nI_clamp (Nat.lt_trans hj hn)] at hP1 hD1
  rw [hx] at hP1 hD1
  exact kk H1 locs1 ls hP1 hD1 hS1 h
theorem pg_aldq (hC : pv_C κ p R s m args meth c y cc nL Ts rt A) {a n b : Nat} {row : Nat → Option Nat} {i : Int32} (hdg : decode cc pc = .ok (.aaload, 1)) (j : Nat) (hL : a ∈ L) (hf : f a = .inl (κ.2.1 3, n, .inr (.inr (.inr (.inr row))))) (hi : i = nI j) (hj : j < n) (hn : n < 2 ^ 31) (hv : row j = some b) (kk : pv_G κ p l e R s m args below meth c Q A nL cells slots L f (pc + 1) vs (.ref b :: st)) : pv_G κ p l e R s m args below meth c Q A nL cells slots L f pc vs (.int i :: .ref a :: st) := fun H locs ls hP hD hS h => by
  obtain ⟨q0, hq⟩ := pv_at (D := κ.1) (H := H) hL hf
  subst hi
  refine va_aldq hC.1 hC.2.1 hC.2.2.2.2.2.2.2.1 hP q0 3 hq rfl (vp_in_nI hj hn) hdg ?_
  rw [nI_clamp (Nat.lt_trans hj hn), hv]
  exact kk H locs ls hP hD hS h
theorem pg_astq (hC : pv_C κ p R s m args meth c y cc nL Ts rt A) {a n b ci : Nat} {fs : List Value} {r : vw_C} {row : Nat → Option Nat} {i : Int32} (hdg : decode cc pc = .ok (.aastore, 1)) (j : Nat) (hL : a ∈ L) (hf : f a = .inl (κ.2.1 3, n, .inr (.inr (.inr (.inr row))))) (hLb : b ∈ L) (hfb : f b = .inr (ci, fs)) (hcl : vwCl[ci]? = some r) (hr : r.1 = "ExcuseTariffs$School") (hi : i = nI j) (hj : j < n) (hn : n < 2 ^ 31) (kk : pv_G κ p l e R s m args below meth c Q A nL cells slots L (va_up f a (.inl (κ.2.1 3, n, .inr (.inr (.inr (.inr (va_up row j (some b)))))))) (pc + 1) vs st) : pv_G κ p l e R s m args below meth c Q A nL cells slots L f pc vs (.ref b :: .int i :: .ref a :: st) := fun H locs ls hP hD hS h => by
  obtain ⟨q0, hq⟩ := pv_at (D := κ.1) (H := H) hL hf
  obtain ⟨q1, hq1⟩ := pv_at (D := κ.1) (H := H) hLb hfb
  subst hi
  refine va_astq hC.1 hC.2.1 hC.2.2.2.2.2.2.2.1 hP hD hS q0 3 q1 ci hq (by rw [hr]; rfl) hq1 hcl (vp_in_nI hj hn) hdg (fun H1 locs1 hP1 hD1 hS1 => ?_)
  rw [pv_set hD hL hf hq, nI_clamp (Nat.lt_trans hj hn)] at hP1 hD1
  exact kk H1 locs1 ls hP1 hD1 hS1 h
theorem pg_alen (hC : pv_C κ p R s m args meth c y cc nL Ts rt A) {a : Nat} {cA : ClassId} {x : vp_A} {ty : FieldType} {v : Int32} (hdg : decode cc pc = .ok (.arraylength, 1)) (t0 : Nat) (ht : (pv_tys κ)[t0]? = some (cA, ty)) (hL : a ∈ L) (hf : f a = .inl (cA, x)) (hv : Int32.ofNat x.1 = v) (kk : pv_G κ p l e R s m args below meth c Q A nL cells slots L f (pc + 1) vs (.int v :: st)) : pv_G κ p l e R s m args below meth c Q A nL cells slots L f pc vs (.ref a :: st) := fun H locs ls hP hD hS h => by
  obtain ⟨q0, hq⟩ := pv_at (D := κ.1) (H := H) hL hf
  exact va_alen hC.1 hC.2.1 hC.2.2.2.2.2.2.2.1 hP q0 t0 hq ht hv hdg (kk H locs ls hP hD hS h)
theorem pg_gets (hC : pv_C κ p R s m args meth c y cc nL Ts rt A) {n : String} {t : Nat} {g : Nat → Int32} {index : Nat} (hdg : decode cc pc = .ok (.getstatic index, 3)) (ht : pv_tb n t g A s) (hlink : Cond.fieldLink y.cls index "ExcuseTariffs" n "[I" ∈ Ts) (kk : pv_G κ p l e R s m args below meth c Q A nL cells slots L f (pc + 3) vs (.ref t :: st)) : pv_G κ p l e R s m args below meth c Q A nL cells slots L f pc vs st := fun H locs ls hP hD hS h => va_gets hC.1 hC.2.1 ht.1 hS hC.2.2.2.1 (hC.2.2.2.2.1 _ hlink) (fun _ q => q) hdg (kk H locs ls hP hD hS h)
theorem pg_getsN (hC : pv_C κ p R s m args meth c y cc nL Ts rt A) {n host : String} {t : Nat} {g : Nat → Int32} {index : Nat} (hdg : decode cc pc = .ok (.getstatic index, 3)) (ht : pv_tb n t g A s) (hlink : va_Nw (.fieldLinkNest y.cls index "ExcuseTariffs" n "[I" host) s) (kk : pv_G κ p l e R s m args below meth c Q A nL cells slots L f (pc + 3) vs (.ref t :: st)) : pv_G κ p l e R s m args below meth c Q A nL cells slots L f pc vs st := fun H locs ls hP hD hS h => va_getsN hC.1 hC.2.1 ht.1 hS hC.2.2.2.1 (va_Nw.use rfl hlink) (fun _ q => q) hdg (kk H locs ls hP hD hS h)
theorem pg_tald (hC : pv_C κ p R s m args meth c y cc nL Ts rt A) {n : String} {t : Nat} {g : Nat → Int32} {i v : Int32} (hdg : decode cc pc = .ok (.iaload, 1)) (j : Nat) (ht : pv_tb n t g A s) (hi : i = nI j) (hj : j < 5) (hv : g j = v) (kk : pv_G κ p l e R s m args below meth c Q A nL cells slots L f (pc + 1) vs (.int v :: st)) : pv_G κ p l e R s m args below meth c Q A nL cells slots L f pc vs (.int i :: .ref t :: st) := fun H locs ls hP hD hS h => by
  subst hi
  exact va_ti hC.1 hC.2.1 ht.2 hS (vp_in_nI hj (by decide)) (by rw [nI_clamp (by omega), hv]) hdg (kk H locs ls hP hD hS h)
theorem pg_tlen (hC : pv_C κ p R s m args meth c y cc nL Ts rt A) {n : String} {t : Nat} {g : Nat → Int32} {v : Int32} (hdg : decode cc pc = .ok (.arraylength, 1)) (ht : pv_tb n t g A s) (hv : Int32.ofNat 5 = v) (kk : pv_G κ p l e R s m args below meth c Q A nL cells slots L f (pc + 1) vs (.int v :: st)) : pv_G κ p l e R s m args below meth c Q A nL cells slots L f pc vs (.ref t :: st) := fun H locs ls hP hD hS h => va_tlen hC.1 hC.2.1 ht.2 hS hv hdg (kk H locs ls hP hD hS h)
theorem pg_mmax (hC : pv_C κ p R s m args meth c y cc nL Ts rt A) {index : Nat} {x y2 : Int32} (hdg : decode cc pc = .ok (.invokestatic index, 3)) (h1 : Cond.methodLink y.cls index Lib.Math.max.name ∈ Ts) (h2 : Cond.static Lib.Math.max.name ∈ Ts) (h3 : Cond.initialized "java/lang/Math" ∈ Ts) (h4 : Cond.code Lib.Math.max.name Lib.Math.max.code 2 (some .int) ∈ Ts) (hfr : 1 ≤ R.frames) (hlo : (st.map fun v => v.category).sum + 13 ≤ R.locals) (hc : cells ≤ R.cells) (hs : slots ≤ R.slots) (kk : pv_G κ p l e R s m args below meth c Q A nL cells slots L f (pc + 3) vs (.int (if x < y2 then y2 else x) :: st)) : pv_G κ p l e R s m args below meth c Q A nL cells slots L f pc vs (.int y2 :: .int x :: st) := fun H locs ls hP hD hS h => va_mmax hC.1 hC.2.1 (hC.2.2.1.trans h.1.symm) hC.2.2.2.1 (hC.2.2.2.2.1 _ h1) (hC.2.2.2.2.1 _ h2) (hC.2.2.2.2.1 _ h3) (hC.2.2.2.2.1 _ h4) hfr hlo hc hs hdg (kk H locs ls hP hD hS h)
theorem pg_mmin (hC : pv_C κ p R s m args meth c y cc nL Ts rt A) {index : Nat} {x y2 : Int32} (hdg : decode cc pc = .ok (.invokestatic index, 3)) (h1 : Cond.methodLink y.cls index Lib.Math.min.name ∈ Ts) (h2 : Cond.static Lib.Math.min.name ∈ Ts) (h3 : Cond.initialized "java/lang/Math" ∈ Ts) (h4 : Cond.code Lib.Math.min.name Lib.Math.min.code 2 (some .int) ∈ Ts) (hfr : 1 ≤ R.frames) (hlo : (st.map fun v => v.category).sum + 13 ≤ R.locals) (hc : cells ≤ R.cells) (hs : slots ≤ R.slots) (kk : pv_G κ p l e R s m args below meth c Q A nL cells slots L f (pc + 3) vs (.int (if y2 < x then y2 else x) :: st)) : pv_G κ p l e R s m args below meth c Q A nL cells slots L f pc vs (.int y2 :: .int x :: st) := fun H locs ls hP hD hS h => va_mmin hC.1 hC.2.1 (hC.2.2.1.trans h.1.symm) hC.2.2.2.1 (hC.2.2.2.2.1 _ h1) (hC.2.2.2.2.1 _ h2) (hC.2.2.2.2.1 _ h3) (hC.2.2.2.2.1 _ h4) hfr hlo hc hs hdg (kk H locs ls hP hD hS h)
theorem pg_objInit (hC : pv_C κ p R s m args meth c y cc nL Ts rt A) {index a : Nat} (hdg : decode cc pc = .ok (.invokespecial index, 3)) (h1 : Cond.methodLink y.cls index objectInit ∈ Ts) (h2 : Cond.instanceMethod objectInit ∈ Ts) (h3 : Cond.code objectInit ⟨#[0xb1]⟩ 1 none ∈ Ts) (hfr : 1 ≤ R.frames) (hlo : (st.map fun v => v.category).sum + 12 ≤ R.locals) (kk : pv_G κ p l e R s m args below meth c Q A nL cells slots L f (pc + 3) vs st) : pv_G κ p l e R s m args below meth c Q A nL cells slots L f pc vs (.ref a :: st) := fun H locs ls hP hD hS h => W.objInit hC.1 hC.2.1 hC.2.2.2.1 (hC.2.2.2.2.1 _ h1) (hC.2.2.2.2.1 _ h2) (hC.2.2.2.2.1 _ h3) rfl (by rw [hC.2.2.1]; exact h.1) rfl hdg hfr (by show 2 * 0 + _ + 12 ≤ _; omega) (W.eq (g2 := F0 m (pc + 3) ls st) rfl (kk H locs ls hP hD hS h))
theorem pg_iret (hC : pv_C κ p R s m args meth c y cc nL Ts rt A) {v : Int32} {post : Int32 → List Nat × (Nat → va_E) → Prop} (hdg : decode cc pc = .ok (.ireturn, 1)) (hr : rt = some .int) (hpost : post v (L, f)) : pv_G κ p l e R s m args below meth c (MQ below (va_Qi post (pv_B κ A) A) args s cells slots A) A nL cells slots L f pc vs [.int v] := fun H locs ls hP hD hS h => W.iret hC.1 hC.2.1 (hC.2.2.2.2.2.1.trans hr) (fun t ht hW => ⟨⟨v, (L, f), rfl, hpost, by rw [ht]; exact hP, va_K.moved hW.alike hC.2.2.2.2.2.2.2.1, hD⟩, hS.F ht⟩) hS.2.2 hdg hC.2.2.2.2.2.2.1
theorem pg_zret (hC : pv_C κ p R s m args meth c y cc nL Ts rt A) {v : Int32} {post : Int32 → List Nat × (Nat → va_E) → Prop} (hdg : decode cc pc = .ok (.ireturn, 1)) {ty : FieldType} (hr : rt = some ty) (hn : narrow ty (.int v) = .int v) (hpost : post v (L, f)) : pv_G κ p l e R s m args below meth c (MQ below (va_Qi post (pv_B κ A) A) args s cells slots A) A nL cells slots L f pc vs [.int v] := fun H locs ls hP hD hS h => W.zret hC.1 hC.2.1 (hC.2.2.2.2.2.1.trans hr) hn (fun t ht hW => ⟨⟨v, (L, f), rfl, hpost, by rw [ht]; exact hP, va_K.moved hW.alike hC.2.2.2.2.2.2.2.1, hD⟩, hS.F ht⟩) hS.2.2 hdg hC.2.2.2.2.2.2.1
theorem pg_vret (hC : pv_C κ p R s m args meth c y cc nL Ts rt A) {post : List Nat × (Nat → va_E) → Prop} (hdg : decode cc pc = .ok (.return_, 1)) (hr : rt = none) (hpost : post (L, f)) : pv_G κ p l e R s m args below meth c (MQ below (va_Qv post (pv_B κ A) A) args s cells slots A) A nL cells slots L f pc vs [] := fun H locs ls hP hD hS h => W.vret hC.1 hC.2.1 (hC.2.2.2.2.2.1.trans hr) (fun t ht hW => ⟨⟨(L, f), rfl, hpost, by rw [ht]; exact hP, va_K.moved hW.alike hC.2.2.2.2.2.2.2.1, hD⟩, hS.F ht⟩) hS.2.2 hdg hC.2.2.2.2.2.2.1
theorem pv_A_in {H : Heap} {locs : List Loc} (hA : ∀ q : Nat, s.heap.size ≤ q → A q) (hD : va_D A (va_pl L f)) (hS : va_S A s.heap H locs) : ∀ q : Nat, va_A (va_pl L f) H.size q → A q := by
  intro q h
  rcases h with ⟨k, e, h⟩ | h
  · exact hD.2 k (q, e) h
  · exact hA q (Nat.le_trans hS.1 h)
theorem pv_blind {sz : Nat} {av : List Value} : FrameBlind (va_Pc av (pv_P κ L f sz)) := by
  intro a U g mk hh
  obtain ⟨h1, h2, h3, h4, h5, h6⟩ := hh
  obtain ⟨⟨t1, t2, t3⟩, t4, t5⟩ := h6
  have e : (U.calling g mk a).vm = U.vm := rfl
  refine ⟨h1, h2, h3, va_K.moved (u := U) (U := U.calling g mk a) (Vm.Alike.refl U.vm) h4, h5, ⟨?_, ?_, ?_⟩, pv_N.same (U := U.calling g mk a) rfl t4, va_AO.moved (Vm.Alike.refl U.vm) t5⟩
  · exact t1.go (U := U.calling g mk a) (Vm.Alike.refl U.vm) (fun _ _ _ => rfl) (fun _ _ h => h)
  · exact t2.go (U := U.calling g mk a) (Vm.Alike.refl U.vm) (fun _ _ _ => rfl) (fun _ _ h => h)
  · exact t3.go (U := U.calling g mk a) (Vm.Alike.refl U.vm) (fun _ _ _ => rfl) (fun _ _ h => h)
theorem pv_pre {U : State} {H : Heap} {locs : List Loc} (hA : ∀ q : Nat, s.heap.size ≤ q → A q) (hK : va_K κ.1 vwCl (pv_tys κ) s) (hT : pv_T κ A s) (hP : va_P κ.1 vwCl (va_pl L f) H) (hD : va_D A (va_pl L f)) (hS : va_S A s.heap H locs) (hU : U.heap = H) (hW : s.WarmedH U.vm) : pv_P κ L f H.size U := by
  obtain ⟨⟨t1, t2, t3⟩, t4, t5⟩ := hT
  have go : ∀ {n : String} {t : Nat} {g : Nat → Int32}, pv_tb n t g A s → pv_tb n t g (va_A (va_pl L f) H.size) U := fun h => h.go hW.alike (fun a h1 h2 => by rw [hU]; exact hS.2.1 a h1 h2) (fun q _ h => pv_A_in hA hD hS q h)
  exact ⟨by rw [hU], by rw [hU]; exact hP, va_K.moved hW.alike hK, hD.weaken (fun _ _ _ _ => trivial), ⟨go t1, go t2, go t3⟩, t4.warm hW, t5.moved hW.alike⟩
theorem pg_callVi (hC : pv_C κ p R s m args meth c y cc nL Ts rt A) {y2 : MethodName} {ws2 : List Cond} {rm2 : Room} {bytes : ByteArray} {maxL : Nat} {ret : Option FieldType} {n index ci b : Nat} {C2 : String} {fs : List Value} {r0 : vw_C} {As rest : List Value} {mc ms : Nat} {post : Int32 → List Nat × (Nat → va_E) → Prop} (hdg : decode cc pc = .ok (.invokevirtual index, 3)) (hM : pv_Mi l κ y2 ws2 rm2 L f (.ref b :: As) mc ms post) (cw : CallW R s args y.cls C2 index y2 bytes maxL ret ws2 rm2 mc ms n) (hL : b ∈ L) (hfb : f b = .inr (ci, fs)) (hcl : vwCl[ci]? = some r0) (hr0 : r0.1 = C2) (hn : As.length = n) (hst : st = As.reverse ++ .ref b :: rest) (hWt : (rest.map fun v => v.category).sum ≤ 8) (hcs : cells + mc ≤ R.cells ∧ slots + ms ≤ R.slots) (kk : ∀ (r : Int32) (u : List Nat × (Nat → va_E)), post r u → pv_G κ p l e R s m args below meth c Q A nL (cells + mc) (slots + ms) u.1 u.2 (pc + 3) vs (.int r :: rest)) : pv_G κ p l e R s m args below meth c Q A nL cells slots L f pc vs st := fun H locs ls hP hD hS h => by
  subst hst
  refine va_calli (va_runV (As := As) (rest := rest) ⟨hC.1, hC.2.1, hC.2.2.1, hC.2.2.2.1, hC.2.2.2.2.1⟩ (hM H.size) cw ⟨pv_blind, (by obtain ⟨q0, hq⟩ := pv_at (D := κ.1) (H := H) hL hfb; rw [← hr0]; exact va_recv hC.2.2.2.2.2.2.2.1 hP hcl hq), fun U hU hW => ⟨rfl, pv_pre hC.2.2.2.2.2.2.2.2.1 hC.2.2.2.2.2.2.2.1 hC.2.2.2.2.2.2.2.2.2.1 hP hD hS hU hW⟩⟩ rfl hn h.1 rfl (by show 2 * 0 + _ ≤ 8; omega) hdg hcs) hS (fun q _ z => pv_A_in hC.2.2.2.2.2.2.2.2.1 hD hS q z) (pv_A_in hC.2.2.2.2.2.2.2.2.1 hD hS) (fun r u t H1 locs1 ht hvm hw hB hz hk hS1 => ?_)
  obtain ⟨hP1, -, hD1⟩ := hB
  rw [ht] at hP1
  exact kk r u hw H1 locs1 ls hP1 (hD1.weaken (fun _ q _ z => pv_A_in hC.2.2.2.2.2.2.2.2.1 hD hS q.1 z)) hS1 h
theorem pg_callVv (hC : pv_C κ p R s m args meth c y cc nL Ts rt A) {y2 : MethodName} {ws2 : List Cond} {rm2 : Room} {bytes : ByteArray} {maxL : Nat} {ret : Option FieldType} {n index ci b : Nat} {C2 : String} {fs : List Value} {r0 : vw_C} {As rest : List Value} {mc ms : Nat} {post : List Nat × (Nat → va_E) → Prop} (hdg : decode cc pc = .ok (.invokevirtual index, 3)) (hM : pv_Mv l κ y2 ws2 rm2 L f (.ref b :: As) mc ms post) (cw : CallW R s args y.cls C2 index y2 bytes maxL ret ws2 rm2 mc ms n) (hL : b ∈ L) (hfb : f b = .inr (ci, fs)) (hcl : vwCl[ci]? = some r0) (hr0 : r0.1 = C2) (hn : As.length = n) (hst : st = As.reverse ++ .ref b :: rest) (hWt : (rest.map fun v => v.category).sum ≤ 8) (hcs : cells + mc ≤ R.cells ∧ slots + ms ≤ R.slots) (kk : ∀ (u : List Nat × (Nat → va_E)), post u → pv_G κ p l e R s m args below meth c Q A nL (cells + mc) (slots + ms) u.1 u.2 (pc + 3) vs rest) : pv_G κ p l e R s m args below meth c Q A nL cells slots L f pc vs st := fun H locs ls hP hD hS h => by
  subst hst
  refine va_callv (va_runV (As := As) (rest := rest) ⟨hC.1, hC.2.1, hC.2.2.1, hC.2.2.2.1, hC.2.2.2.2.1⟩ (hM H.size) cw ⟨pv_blind, (by obtain ⟨q0, hq⟩ := pv_at (D := κ.1) (H := H) hL hfb; rw [← hr0]; exact va_recv hC.2.2.2.2.2.2.2.1 hP hcl hq), fun U hU hW => ⟨rfl, pv_pre hC.2.2.2.2.2.2.2.2.1 hC.2.2.2.2.2.2.2.1 hC.2.2.2.2.2.2.2.2.2.1 hP hD hS hU hW⟩⟩ rfl hn h.1 rfl (by show 2 * 0 + _ ≤ 8; omega) hdg hcs) hS (fun q _ z => pv_A_in hC.2.2.2.2.2.2.2.2.1 hD hS q z) (pv_A_in hC.2.2.2.2.2.2.2.2.1 hD hS) (fun u t H1 locs1 ht hvm hw hB hz hk hS1 => ?_)
  obtain ⟨hP1, -, hD1⟩ := hB
  rw [ht] at hP1
  exact kk u hw H1 locs1 ls hP1 (hD1.weaken (fun _ q _ z => pv_A_in hC.2.2.2.2.2.2.2.2.1 hD hS q.1 z)) hS1 h
theorem pg_callSi (hC : pv_C κ p R s m args meth c y cc nL Ts rt A) {y2 : MethodName} {ws2 : List Cond} {rm2 : Room} {bytes : ByteArray} {maxL : Nat} {ret : Option FieldType} {n index : Nat} {As rest : List Value} {mc ms : Nat} {post : Int32 → List Nat × (Nat → va_E) → Prop} (hdg : decode cc pc = .ok (.invokestatic index, 3)) (hM : pv_Mi l κ y2 ws2 rm2 L f As mc ms post) (cw : CallB R s args y.cls index y2 bytes maxL ret ws2 rm2 mc ms n ∧ (Cond.static y2).before args s = true) (hn : As.length = n) (hst : st = As.reverse ++ rest) (hWt : (rest.map fun v => v.category).sum ≤ 8) (hcs : cells + mc ≤ R.cells ∧ slots + ms ≤ R.slots) (kk : ∀ (r : Int32) (u : List Nat × (Nat → va_E)), post r u → pv_G κ p l e R s m args below meth c Q A nL (cells + mc) (slots + ms) u.1 u.2 (pc + 3) vs (.int r :: rest)) : pv_G κ p l e R s m args below meth c Q A nL cells slots L f pc vs st := fun H locs ls hP hD hS h => by
  subst hst
  refine va_calli (va_runS (As := As) (rest := rest) ⟨hC.1, hC.2.1, hC.2.2.1, hC.2.2.2.1, hC.2.2.2.2.1⟩ (hM H.size) cw ⟨pv_blind, fun U hU hW => ⟨rfl, pv_pre hC.2.2.2.2.2.2.2.2.1 hC.2.2.2.2.2.2.2.1 hC.2.2.2.2.2.2.2.2.2.1 hP hD hS hU hW⟩⟩ rfl hn h.1 rfl (by show 2 * 0 + _ ≤ 8; omega) hdg hcs) hS (fun q _ z => pv_A_in hC.2.2.2.2.2.2.2.2.1 hD hS q z) (pv_A_in hC.2.2.2.2.2.2.2.2.1 hD hS) (fun r u t H1 locs1 ht hvm hw hB hz hk hS1 => ?_)
  obtain ⟨hP1, -, hD1⟩ := hB
  rw [ht] at hP1
  exact kk r u hw H1 locs1 ls hP1 (hD1.weaken (fun _ q _ z => pv_A_in hC.2.2.2.2.2.2.2.2.1 hD hS q.1 z)) hS1 h
theorem pg_callSv (hC : pv_C κ p R s m args meth c y cc nL Ts rt A) {y2 : MethodName} {ws2 : List Cond} {rm2 : Room} {bytes : ByteArray} {maxL : Nat} {ret : Option FieldType} {n index : Nat} {As rest : List Value} {mc ms : Nat} {post : List Nat × (Nat → va_E) → Prop} (hdg : decode cc pc = .ok (.invokestatic index, 3)) (hM : pv_Mv l κ y2 ws2 rm2 L f As mc ms post) (cw : CallB R s args y.cls index y2 bytes maxL ret ws2 rm2 mc ms n ∧ (Cond.static y2).before args s = true) (hn : As.length = n) (hst : st = As.reverse ++ rest) (hWt : (rest.map fun v => v.category).sum ≤ 8) (hcs : cells + mc ≤ R.cells ∧ slots + ms ≤ R.slots) (kk : ∀ (u : List Nat × (Nat → va_E)), post u → pv_G κ p l e R s m args below meth c Q A nL (cells + mc) (slots + ms) u.1 u.2 (pc + 3) vs rest) : pv_G κ p l e R s m args below meth c Q A nL cells slots L f pc vs st := fun H locs ls hP hD hS h => by
  subst hst
  refine va_callv (va_runS (As := As) (rest := rest) ⟨hC.1, hC.2.1, hC.2.2.1, hC.2.2.2.1, hC.2.2.2.2.1⟩ (hM H.size) cw ⟨pv_blind, fun U hU hW => ⟨rfl, pv_pre hC.2.2.2.2.2.2.2.2.1 hC.2.2.2.2.2.2.2.1 hC.2.2.2.2.2.2.2.2.2.1 hP hD hS hU hW⟩⟩ rfl hn h.1 rfl (by show 2 * 0 + _ ≤ 8; omega) hdg hcs) hS (fun q _ z => pv_A_in hC.2.2.2.2.2.2.2.2.1 hD hS q z) (pv_A_in hC.2.2.2.2.2.2.2.2.1 hD hS) (fun u t H1 locs1 ht hvm hw hB hz hk hS1 => ?_)
  obtain ⟨hP1, -, hD1⟩ := hB
  rw [ht] at hP1
  exact kk u hw H1 locs1 ls hP1 (hD1.weaken (fun _ q _ z => pv_A_in hC.2.2.2.2.2.2.2.2.1 hD hS q.1 z)) hS1 h
theorem pg_callSNi (hC : pv_C κ p R s m args meth c y cc nL Ts rt A) {y2 : MethodName} {ws2 : List Cond} {rm2 : Room} {bytes : ByteArray} {maxL : Nat} {ret : Option FieldType} {n index : Nat} {host : String} {As rest : List Value} {mc ms : Nat} {post : Int32 → List Nat × (Nat → va_E) → Prop} (hdg : decode cc pc = .ok (.invokestatic index, 3)) (hM : pv_Mi l κ y2 ws2 rm2 L f As mc ms post) (cw : va_CN R s args y.cls index y2 host bytes maxL ret ws2 rm2 mc ms n ∧ (Cond.static y2).before args s = true ∧ True) (hn : As.length = n) (hst : st = As.reverse ++ rest) (hWt : (rest.map fun v => v.category).sum ≤ 8) (hcs : cells + mc ≤ R.cells ∧ slots + ms ≤ R.slots) (kk : ∀ (r : Int32) (u : List Nat × (Nat → va_E)), post r u → pv_G κ p l e R s m args below meth c Q A nL (cells + mc) (slots + ms) u.1 u.2 (pc + 3) vs (.int r :: rest)) : pv_G κ p l e R s m args below meth c Q A nL cells slots L f pc vs st := fun H locs ls hP hD hS h => by
  subst hst
  refine va_calli (va_runSN (As := As) (rest := rest) ⟨hC.1, hC.2.1, hC.2.2.1, hC.2.2.2.1, hC.2.2.2.2.1⟩ (hM H.size) cw ⟨pv_blind, fun U hU hW => ⟨rfl, pv_pre hC.2.2.2.2.2.2.2.2.1 hC.2.2.2.2.2.2.2.1 hC.2.2.2.2.2.2.2.2.2.1 hP hD hS hU hW⟩⟩ rfl hn h.1 rfl (by show 2 * 0 + _ ≤ 8; omega) hdg hcs) hS (fun q _ z => pv_A_in hC.2.2.2.2.2.2.2.2.1 hD hS q z) (pv_A_in hC.2.2.2.2.2.2.2.2.1 hD hS) (fun r u t H1 locs1 ht hvm hw hB hz hk hS1 => ?_)
  obtain ⟨hP1, -, hD1⟩ := hB
  rw [ht] at hP1
  exact kk r u hw H1 locs1 ls hP1 (hD1.weaken (fun _ q _ z => pv_A_in hC.2.2.2.2.2.2.2.2.1 hD hS q.1 z)) hS1 h
theorem pg_callSNv (hC : pv_C κ p R s m args meth c y cc nL Ts rt A) {y2 : MethodName} {ws2 : List Cond} {rm2 : Room} {bytes : ByteArray} {maxL : Nat} {ret : Option FieldType} {n index : Nat} {host : String} {As rest : List Value} {mc ms : Nat} {post : List Nat × (Nat → va_E) → Prop} (hdg : decode cc pc = .ok (.invokestatic index, 3)) (hM : pv_Mv l κ y2 ws2 rm2 L f As mc ms post) (cw : va_CN R s args y.cls index y2 host bytes maxL ret ws2 rm2 mc ms n ∧ (Cond.static y2).before args s = true ∧ True) (hn : As.length = n) (hst : st = As.reverse ++ rest) (hWt : (rest.map fun v => v.category).sum ≤ 8) (hcs : cells + mc ≤ R.cells ∧ slots + ms ≤ R.slots) (kk : ∀ (u : List Nat × (Nat → va_E)), post u → pv_G κ p l e R s m args below meth c Q A nL (cells + mc) (slots + ms) u.1 u.2 (pc + 3) vs rest) : pv_G κ p l e R s m args below meth c Q A nL cells slots L f pc vs st := fun H locs ls hP hD hS h => by
  subst hst
  refine va_callv (va_runSN (As := As) (rest := rest) ⟨hC.1, hC.2.1, hC.2.2.1, hC.2.2.2.1, hC.2.2.2.2.1⟩ (hM H.size) cw ⟨pv_blind, fun U hU hW => ⟨rfl, pv_pre hC.2.2.2.2.2.2.2.2.1 hC.2.2.2.2.2.2.2.1 hC.2.2.2.2.2.2.2.2.2.1 hP hD hS hU hW⟩⟩ rfl hn h.1 rfl (by show 2 * 0 + _ ≤ 8; omega) hdg hcs) hS (fun q _ z => pv_A_in hC.2.2.2.2.2.2.2.2.1 hD hS q z) (pv_A_in hC.2.2.2.2.2.2.2.2.1 hD hS) (fun u t H1 locs1 ht hvm hw hB hz hk hS1 => ?_)
  obtain ⟨hP1, -, hD1⟩ := hB
  rw [ht] at hP1
  exact kk u hw H1 locs1 ls hP1 (hD1.weaken (fun _ q _ z => pv_A_in hC.2.2.2.2.2.2.2.2.1 hD hS q.1 z)) hS1 h
theorem pg_callIv (hC : pv_C κ p R s m args meth c y cc nL Ts rt A) {y2 : MethodName} {ws2 : List Cond} {rm2 : Room} {bytes : ByteArray} {maxL : Nat} {n index b : Nat} {As rest : List Value} {mc ms : Nat} {post : List Nat × (Nat → va_E) → Prop} (hdg : decode cc pc = .ok (.invokespecial index, 3)) (hM : pv_Mv l κ y2 ws2 rm2 L f (.ref b :: As) mc ms post) (cw : CallB R s args y.cls index y2 bytes maxL none ws2 rm2 mc ms n ∧ y2.name = "<init>" ∧ (Cond.instanceMethod y2).before args s = true) (hn : As.length = n) (hst : st = As.reverse ++ .ref b :: rest) (hWt : (rest.map fun v => v.category).sum ≤ 8) (hcs : cells + mc ≤ R.cells ∧ slots + ms ≤ R.slots) (kk : ∀ (u : List Nat × (Nat → va_E)), post u → pv_G κ p l e R s m args below meth c Q A nL (cells + mc) (slots + ms) u.1 u.2 (pc + 3) vs rest) : pv_G κ p l e R s m args below meth c Q A nL cells slots L f pc vs st := fun H locs ls hP hD hS h => by
  subst hst
  refine va_callv (va_runI (As := As) (rest := rest) ⟨hC.1, hC.2.1, hC.2.2.1, hC.2.2.2.1, hC.2.2.2.2.1⟩ (hM H.size) cw ⟨pv_blind, fun U hU hW => ⟨rfl, pv_pre hC.2.2.2.2.2.2.2.2.1 hC.2.2.2.2.2.2.2.1 hC.2.2.2.2.2.2.2.2.2.1 hP hD hS hU hW⟩⟩ rfl hn h.1 rfl (by show 2 * 0 + _ ≤ 8; omega) hdg hcs) hS (fun q _ z => pv_A_in hC.2.2.2.2.2.2.2.2.1 hD hS q z) (pv_A_in hC.2.2.2.2.2.2.2.2.1 hD hS) (fun u t H1 locs1 ht hvm hw hB hz hk hS1 => ?_)
  obtain ⟨hP1, -, hD1⟩ := hB
  rw [ht] at hP1
  exact kk u hw H1 locs1 ls hP1 (hD1.weaken (fun _ q _ z => pv_A_in hC.2.2.2.2.2.2.2.2.1 hD hS q.1 z)) hS1 h
theorem pg_callINv (hC : pv_C κ p R s m args meth c y cc nL Ts rt A) {y2 : MethodName} {ws2 : List Cond} {rm2 : Room} {bytes : ByteArray} {maxL : Nat} {n index b : Nat} {host : String} {As rest : List Value} {mc ms : Nat} {post : List Nat × (Nat → va_E) → Prop} (hdg : decode cc pc = .ok (.invokespecial index, 3)) (hM : pv_Mv l κ y2 ws2 rm2 L f (.ref b :: As) mc ms post) (cw : va_CN R s args y.cls index y2 host bytes maxL none ws2 rm2 mc ms n ∧ y2.name = "<init>" ∧ (Cond.instanceMethod y2).before args s = true) (hn : As.length = n) (hst : st = As.reverse ++ .ref b :: rest) (hWt : (rest.map fun v => v.category).sum ≤ 8) (hcs : cells + mc ≤ R.cells ∧ slots + ms ≤ R.slots) (kk : ∀ (u : List Nat × (Nat → va_E)), post u → pv_G κ p l e R s m args below meth c Q A nL (cells + mc) (slots + ms) u.1 u.2 (pc + 3) vs rest) : pv_G κ p l e R s m args below meth c Q A nL cells slots L f pc vs st := fun H locs ls hP hD hS h => by
  subst hst
  refine va_callv (va_runIN (As := As) (rest := rest) ⟨hC.1, hC.2.1, hC.2.2.1, hC.2.2.2.1, hC.2.2.2.2.1⟩ (hM H.size) cw ⟨pv_blind, fun U hU hW => ⟨rfl, pv_pre hC.2.2.2.2.2.2.2.2.1 hC.2.2.2.2.2.2.2.1 hC.2.2.2.2.2.2.2.2.2.1 hP hD hS hU hW⟩⟩ rfl hn h.1 rfl (by show 2 * 0 + _ ≤ 8; omega) hdg hcs) hS (fun q _ z => pv_A_in hC.2.2.2.2.2.2.2.2.1 hD hS q z) (pv_A_in hC.2.2.2.2.2.2.2.2.1 hD hS) (fun u t H1 locs1 ht hvm hw hB hz hk hS1 => ?_)
  obtain ⟨hP1, -, hD1⟩ := hB
  rw [ht] at hP1
  exact kk u hw H1 locs1 ls hP1 (hD1.weaken (fun _ q _ z => pv_A_in hC.2.2.2.2.2.2.2.2.1 hD hS q.1 z)) hS1 h
end PVR
end
section
/-! ===== the whole world as a table of groups: 0 the school in use, 1 to 6 the history's, 7 and 8 the slots', 9 the pad, 10 the reader, 11 the reference, 12 history, class object and saved ===== -/
def pv_n (i : Nat) : Nat := if i < 9 then 14 else if i = 9 then 2 else if i = 10 then 1 else if i = 11 then 6 else if i = 12 then 5 else 0
def pv_sl (k : Nat) : Nat := match k with | 0 => 5 | 2 => 12 | 3 => 12 | 4 => 12 | 5 => 120 | 12 => 5 | 13 => 5 | _ => 10
def pv_ml (k : Nat) : Nat := match k with | 0 => 234 | 1 => 1404 | 3 => 468 | _ => 60
abbrev pv_so (a : Nat → Nat) (z : Nat → Nat → Int32) : List Value := [.ref (a 0), .int (z 1 0), .ref (a 2), .ref (a 3), .ref (a 4), .ref (a 5), .ref (a 6), .ref (a 7), .ref (a 8), .ref (a 9), .ref (a 10), .ref (a 11), .ref (a 12), .ref (a 13), .int (z 14 0)]
abbrev pv_mo (a : Nat → Nat) (z : Nat → Nat → Int32) : List Value := [.ref (a 0), .ref (a 1), .int (z 2 0), .ref (a 3), .ref (a 4), .ref (a 5), .int (z 6 0), .int (z 7 0), .int (z 8 0), .int (z 9 0), .int (z 10 0), .int (z 11 0)]
abbrev pv_ro (z : Nat → Nat → Int32) : List Value := [.int (z 0 0), .int (z 1 0), .int (z 2 0), .int (z 3 0), .int (z 4 0)]
def pv_eg (κ : pv_Kt) (x : Nat → Nat → Nat) (z : Nat → Nat → Int32) (i k : Nat) : va_E :=
  if i < 9 then (if k = 1 then .inr (3, pv_so (x i) z) else .inl (κ.2.1 1, pv_sl k, .inl (z k)))
  else if i = 9 then (if k = 1 then .inr (1, [.ref (x i 0), .int (z 1 0)]) else .inl (κ.2.1 0, 60, .inl (z 0)))
  else if i = 10 then .inr (2, pv_ro z)
  else if i = 11 then (if k = 2 then .inr (5, pv_mo (x i) z) else if k = 4 then .inl (κ.2.1 2, 2, .inl (z 4)) else .inl (κ.2.1 1, pv_ml k, .inl (z k)))
  else if k = 0 then .inr (0, [.ref (x i 1), .int (z 1 0), .int (z 2 0)])
  else if k = 1 then .inl (κ.2.1 3, 6, .inr (.inr (.inr (.inr (fun j => some (x (1 + j) 1))))))
  else if k = 2 then .inr (4, [.ref (x 0 1), .ref (x i 0), .ref (x i 3), .ref (x i 4), .ref (x 9 1), .ref (x 10 0)])
  else if k = 3 then .inl (κ.2.1 3, 2, .inr (.inr (.inr (.inr (fun j => some (x (7 + j) 1))))))
  else .inl (κ.2.1 2, 2, .inl (z 4))
def pv_ok (κ : pv_Kt) (x : Nat → Nat → Nat) (L : List Nat) (f : Nat → va_E) (Z : Nat → Nat → Nat → Int32) : Prop := (∀ i k, k < pv_n i → x i k ∈ L) ∧ (∀ i k j l, k < pv_n i → l < pv_n j → x i k = x j l → i = j ∧ k = l) ∧ ∀ i k, k < pv_n i → f (x i k) = pv_eg κ x (Z i) i k
def pv_u (Z : Nat → Nat → Nat → Int32) (i k : Nat) (row : Nat → Int32) : Nat → Nat → Nat → Int32 := va_up Z i (va_up (Z i) k row)
/-- a field of its own: the row's place 0 -/
def pv_ui (Z : Nat → Nat → Nat → Int32) (i k : Nat) (v : Int32) : Nat → Nat → Nat → Int32 := pv_u Z i k (fun _ => v)
/-- one place of a row -/
def pv_ua (Z : Nat → Nat → Nat → Int32) (i k j : Nat) (v : Int32) : Nat → Nat → Nat → Int32 := pv_u Z i k (va_up (Z i k) j v)
section PVO
variable {κ : pv_Kt} {x : Nat → Nat → Nat} {L : List Nat} {f : Nat → va_E} {Z : Nat → Nat → Nat → Int32} {i k : Nat} {row : Nat → Int32}
theorem pv_u_o {j : Nat} (h : j ≠ i) : pv_u Z i k row j = Z j := by simp [pv_u, va_up, h]
theorem pv_u_i {l : Nat} (h : l ≠ k) : pv_u Z i k row i l = Z i l := by simp [pv_u, va_up, h]
theorem pv_u_e : pv_u Z i k row i k = row := by simp [pv_u, va_up]
theorem ok_mem (h : pv_ok κ x L f Z) (hk : k < pv_n i) : x i k ∈ L := h.1 i k hk
theorem pv_nS (hi : i < 9) (hk : k < 14) : k < pv_n i := by simp only [pv_n, if_pos hi]; exact hk
theorem ok_So (h : pv_ok κ x L f Z) (hi : i < 9) : f (x i 1) = .inr (3, pv_so (x i) (Z i)) := by
  rw [h.2.2 i 1 (pv_nS hi (by decide))]; simp only [pv_eg, if_pos hi, if_true]
theorem ok_Sa (h : pv_ok κ x L f Z) (hi : i < 9) (k : Nat) (hk : k < 14) (h1 : k ≠ 1) : f (x i k) = .inl (κ.2.1 1, pv_sl k, .inl (Z i k)) := by
  rw [h.2.2 i k (pv_nS hi hk)]; simp only [pv_eg, if_pos hi, if_neg h1]
theorem ok_Sm (h : pv_ok κ x L f Z) (hi : i < 9) (k : Nat) (hk : k < 14) : x i k ∈ L := h.1 i k (pv_nS hi hk)
theorem ok_Po (h : pv_ok κ x L f Z) : f (x 9 1) = .inr (1, [.ref (x 9 0), .int (Z 9 1 0)]) := h.2.2 9 1 (by decide)
theorem ok_Pa (h : pv_ok κ x L f Z) : f (x 9 0) = .inl (κ.2.1 0, 60, .inl (Z 9 0)) := h.2.2 9 0 (by decide)
theorem ok_Ro (h : pv_ok κ x L f Z) : f (x 10 0) = .inr (2, pv_ro (Z 10)) := h.2.2 10 0 (by decide)
theorem ok_Mo (h : pv_ok κ x L f Z) : f (x 11 2) = .inr (5, pv_mo (x 11) (Z 11)) := h.2.2 11 2 (by decide)
theorem ok_Ma (h : pv_ok κ x L f Z) (k : Nat) (hk : k < 6) (h2 : k ≠ 2) (h4 : k ≠ 4) : f (x 11 k) = .inl (κ.2.1 1, pv_ml k, .inl (Z 11 k)) := by
  rw [h.2.2 11 k hk]; simp only [pv_eg, if_neg h2, if_neg h4]; rfl
theorem ok_Mb (h : pv_ok κ x L f Z) : f (x 11 4) = .inl (κ.2.1 2, 2, .inl (Z 11 4)) := h.2.2 11 4 (by decide)
theorem ok_Ho (h : pv_ok κ x L f Z) : f (x 12 0) = .inr (0, [.ref (x 12 1), .int (Z 12 1 0), .int (Z 12 2 0)]) := h.2.2 12 0 (by decide)
theorem ok_Hs (h : pv_ok κ x L f Z) : f (x 12 1) = .inl (κ.2.1 3, 6, .inr (.inr (.inr (.inr (fun j => some (x (1 + j) 1)))))) := h.2.2 12 1 (by decide)
theorem ok_Xo (h : pv_ok κ x L f Z) : f (x 12 2) = .inr (4, [.ref (x 0 1), .ref (x 12 0), .ref (x 12 3), .ref (x 12 4), .ref (x 9 1), .ref (x 10 0)]) := h.2.2 12 2 (by decide)
theorem ok_Xs (h : pv_ok κ x L f Z) : f (x 12 3) = .inl (κ.2.1 3, 2, .inr (.inr (.inr (.inr (fun j => some (x (7 + j) 1)))))) := h.2.2 12 3 (by decide)
theorem ok_Xb (h : pv_ok κ x L f Z) : f (x 12 4) = .inl (κ.2.1 2, 2, .inl (Z 12 4)) := h.2.2 12 4 (by decide)
/-- one cell changes -/
theorem ok_put {Z' : Nat → Nat → Nat → Int32} {E : va_E} (h : pv_ok κ x L f Z) (hk : k < pv_n i) (hE : pv_eg κ x (Z' i) i k = E) (ho : ∀ l, l < pv_n i → l ≠ k → pv_eg κ x (Z' i) i l = pv_eg κ x (Z i) i l) (hj : ∀ j, j ≠ i → Z' j = Z j) : pv_ok κ x L (va_up f (x i k) E) Z' := by
  refine ⟨h.1, h.2.1, fun j l hl => ?_⟩
  by_cases e : x j l = x i k
  · obtain ⟨rfl, rfl⟩ := h.2.1 j l i k hl hk e
    rw [hE]; simp [va_up]
  · have e1 : va_up f (x i k) E (x j l) = f (x j l) := by simp [va_up, e]
    rw [e1, h.2.2 j l hl]
    by_cases ej : j = i
    · subst ej
      exact (ho l hl (fun z => e (by rw [z]))).symm
    · rw [hj j ej]
theorem okp_Sa (h : pv_ok κ x L f Z) (hi : i < 9) (hk : k < 14) (h1 : k ≠ 1) {n : Nat} (hn : pv_sl k = n) : pv_ok κ x L (va_up f (x i k) (.inl (κ.2.1 1, n, .inl row))) (pv_u Z i k row) := by
  subst hn
  refine ok_put h (pv_nS hi hk) ?_ (fun l _ hl => ?_) (fun j hj => pv_u_o hj)
  · simp only [pv_eg, if_pos hi, if_neg h1, pv_u_e]
  · have e1 : pv_u Z i k row i 1 = Z i 1 := pv_u_i (Ne.symm h1)
    have e2 : pv_u Z i k row i 14 = Z i 14 := pv_u_i (by omega)
    simp only [pv_eg, if_pos hi, pv_so, e1, e2, pv_u_i hl]
theorem okp_So (h : pv_ok κ x L f Z) (hi : i < 9) (v : Int32) : pv_ok κ x L (va_up f (x i 1) (.inr (3, (pv_so (x i) (Z i)).set 1 (.int v)))) (pv_ui Z i 1 v) := by
  refine ok_put h (pv_nS hi (by decide)) ?_ (fun l _ hl => ?_) (fun j hj => pv_u_o hj)
  · have e2 : pv_u Z i 1 (fun _ => v) i 14 = Z i 14 := pv_u_i (by decide)
    simp only [pv_eg, if_pos hi, if_true, pv_ui, pv_so, e2, pv_u_e]; rfl
  · simp only [pv_eg, if_pos hi, if_neg hl, pv_ui, pv_u_i hl]
theorem okp_St (h : pv_ok κ x L f Z) (hi : i < 9) (v : Int32) : pv_ok κ x L (va_up f (x i 1) (.inr (3, (pv_so (x i) (Z i)).set 14 (.int v)))) (pv_ui Z i 14 v) := by
  refine ok_put h (pv_nS hi (by decide)) ?_ (fun l hll hl => ?_) (fun j hj => pv_u_o hj)
  · have e2 : pv_u Z i 14 (fun _ => v) i 1 = Z i 1 := pv_u_i (by decide)
    simp only [pv_eg, if_pos hi, if_true, pv_ui, pv_so, e2, pv_u_e]; rfl
  · have h14 : l ≠ 14 := by
      simp only [pv_n, if_pos hi] at hll
      omega
    simp only [pv_eg, if_pos hi, if_neg hl, pv_ui, pv_u_i h14]
theorem pv_uu : pv_u Z i k row i = va_up (Z i) k row := by simp [pv_u, va_up]
theorem okp_Pa (h : pv_ok κ x L f Z) : pv_ok κ x L (va_up f (x 9 0) (.inl (κ.2.1 0, 60, .inl row))) (pv_u Z 9 0 row) := by
  refine ok_put h (by decide) (by rw [pv_uu]; rfl) (fun l hl hne => ?_) (fun j hj => pv_u_o hj)
  rw [pv_uu]
  have hl2 : l < 2 := hl
  rcases (show l = 0 ∨ l = 1 by omega) with rfl | rfl <;> first | rfl | exact absurd rfl hne
theorem okp_Po (h : pv_ok κ x L f Z) (v : Int32) : pv_ok κ x L (va_up f (x 9 1) (.inr (1, [.ref (x 9 0), .int v]))) (pv_ui Z 9 1 v) := by
  refine ok_put h (by decide) (by rw [pv_ui, pv_uu]; rfl) (fun l hl hne => ?_) (fun j hj => pv_u_o hj)
  rw [pv_ui, pv_uu]
  have hl2 : l < 2 := hl
  rcases (show l = 0 ∨ l = 1 by omega) with rfl | rfl <;> first | rfl | exact absurd rfl hne
theorem okp_R0 (h : pv_ok κ x L f Z) (v : Int32) : pv_ok κ x L (va_up f (x 10 0) (.inr (2, [.int v, .int (Z 10 1 0), .int (Z 10 2 0), .int (Z 10 3 0), .int (Z 10 4 0)]))) (pv_ui Z 10 0 v) := by
  refine ok_put h (by decide) (by rw [pv_ui, pv_uu]; rfl) (fun l hl hne => ?_) (fun j hj => pv_u_o hj)
  rw [pv_ui, pv_uu]
  have hl2 : l < 1 := hl
  rcases (show l = 0 by omega) with rfl <;> first | rfl | exact absurd rfl hne
theorem okp_R1 (h : pv_ok κ x L f Z) (v : Int32) : pv_ok κ x L (va_up f (x 10 0) (.inr (2, [.int (Z 10 0 0), .int v, .int (Z 10 2 0), .int (Z 10 3 0), .int (Z 10 4 0)]))) (pv_ui Z 10 1 v) := by
  refine ok_put h (by decide) (by rw [pv_ui, pv_uu]; rfl) (fun l hl hne => ?_) (fun j hj => pv_u_o hj)
  rw [pv_ui, pv_uu]
  have hl2 : l < 1 := hl
  rcases (show l = 0 by omega) with rfl <;> first | rfl | exact absurd rfl hne
theorem okp_R2 (h : pv_ok κ x L f Z) (v : Int32) : pv_ok κ x L (va_up f (x 10 0) (.inr (2, [.int (Z 10 0 0), .int (Z 10 1 0), .int v, .int (Z 10 3 0), .int (Z 10 4 0)]))) (pv_ui Z 10 2 v) := by
  refine ok_put h (by decide) (by rw [pv_ui, pv_uu]; rfl) (fun l hl hne => ?_) (fun j hj => pv_u_o hj)
  rw [pv_ui, pv_uu]
  have hl2 : l < 1 := hl
  rcases (show l = 0 by omega) with rfl <;> first | rfl | exact absurd rfl hne
theorem okp_R3 (h : pv_ok κ x L f Z) (v : Int32) : pv_ok κ x L (va_up f (x 10 0) (.inr (2, [.int (Z 10 0 0), .int (Z 10 1 0), .int (Z 10 2 0), .int v, .int (Z 10 4 0)]))) (pv_ui Z 10 3 v) := by
  refine ok_put h (by decide) (by rw [pv_ui, pv_uu]; rfl) (fun l hl hne => ?_) (fun j hj => pv_u_o hj)
  rw [pv_ui, pv_uu]
  have hl2 : l < 1 := hl
  rcases (show l = 0 by omega) with rfl <;> first | rfl | exact absurd rfl hne
theorem okp_R4 (h : pv_ok κ x L f Z) (v : Int32) : pv_ok κ x L (va_up f (x 10 0) (.inr (2, [.int (Z 10 0 0), .int (Z 10 1 0), .int (Z 10 2 0), .int (Z 10 3 0), .int v]))) (pv_ui Z 10 4 v) := by
  refine ok_put h (by decide) (by rw [pv_ui, pv_uu]; rfl) (fun l hl hne => ?_) (fun j hj => pv_u_o hj)
  rw [pv_ui, pv_uu]
  have hl2 : l < 1 := hl
  rcases (show l = 0 by omega) with rfl <;> first | rfl | exact absurd rfl hne
theorem okp_M0 (h : pv_ok κ x L f Z) : pv_ok κ x L (va_up f (x 11 0) (.inl (κ.2.1 1, 234, .inl row))) (pv_u Z 11 0 row) := by
  refine ok_put h (by decide) (by rw [pv_uu]; rfl) (fun l hl hne => ?_) (fun j hj => pv_u_o hj)
  rw [pv_uu]
  have hl2 : l < 6 := hl
  rcases (show l = 0 ∨ l = 1 ∨ l = 2 ∨ l = 3 ∨ l = 4 ∨ l = 5 by omega) with rfl | rfl | rfl | rfl | rfl | rfl <;> first | rfl | exact absurd rfl hne
theorem okp_M1 (h : pv_ok κ x L f Z) : pv_ok κ x L (va_up f (x 11 1) (.inl (κ.2.1 1, 1404, .inl row))) (pv_u Z 11 1 row) := by
  refine ok_put h (by decide) (by rw [pv_uu]; rfl) (fun l hl hne => ?_) (fun j hj => pv_u_o hj)
  rw [pv_uu]
  have hl2 : l < 6 := hl
  rcases (show l = 0 ∨ l = 1 ∨ l = 2 ∨ l = 3 ∨ l = 4 ∨ l = 5 by omega) with rfl | rfl | rfl | rfl | rfl | rfl <;> first | rfl | exact absurd rfl hne
theorem okp_M3 (h : pv_ok κ x L f Z) : pv_ok κ x L (va_up f (x 11 3) (.inl (κ.2.1 1, 468, .inl row))) (pv_u Z 11 3 row) := by
  refine ok_put h (by decide) (by rw [pv_uu]; rfl) (fun l hl hne => ?_) (fun j hj => pv_u_o hj)
  rw [pv_uu]
  have hl2 : l < 6 := hl
  rcases (show l = 0 ∨ l = 1 ∨ l = 2 ∨ l = 3 ∨ l = 4 ∨ l = 5 by omega) with rfl | rfl | rfl | rfl | rfl | rfl <;> first | rfl | exact absurd rfl hne
theorem okp_M5 (h : pv_ok κ x L f Z) : pv_ok κ x L (va_up f (x 11 5) (.inl (κ.2.1 1, 60, .inl row))) (pv_u Z 11 5 row) := by
  refine ok_put h (by decide) (by rw [pv_uu]; rfl) (fun l hl hne => ?_) (fun j hj => pv_u_o hj)
  rw [pv_uu]
  have hl2 : l < 6 := hl
  rcases (show l = 0 ∨ l = 1 ∨ l = 2 ∨ l = 3 ∨ l = 4 ∨ l = 5 by omega) with rfl | rfl | rfl | rfl | rfl | rfl <;> first | rfl | exact absurd rfl hne
theorem okp_M4 (h : pv_ok κ x L f Z) : pv_ok κ x L (va_up f (x 11 4) (.inl (κ.2.1 2, 2, .inl row))) (pv_u Z 11 4 row) := by
  refine ok_put h (by decide) (by rw [pv_uu]; rfl) (fun l hl hne => ?_) (fun j hj => pv_u_o hj)
  rw [pv_uu]
  have hl2 : l < 6 := hl
  rcases (show l = 0 ∨ l = 1 ∨ l = 2 ∨ l = 3 ∨ l = 4 ∨ l = 5 by omega) with rfl | rfl | rfl | rfl | rfl | rfl <;> first | rfl | exact absurd rfl hne
theorem okp_M2 (h : pv_ok κ x L f Z) (v : Int32) : pv_ok κ x L (va_up f (x 11 2) (.inr (5, [.ref (x 11 0), .ref (x 11 1), .int v, .ref (x 11 3), .ref (x 11 4), .ref (x 11 5), .int (Z 11 6 0), .int (Z 11 7 0), .int (Z 11 8 0), .int (Z 11 9 0), .int (Z 11 10 0), .int (Z 11 11 0)]))) (pv_ui Z 11 2 v) := by
  refine ok_put h (by decide) (by rw [pv_ui, pv_uu]; rfl) (fun l hl hne => ?_) (fun j hj => pv_u_o hj)
  rw [pv_ui, pv_uu]
  have hl2 : l < 6 := hl
  rcases (show l = 0 ∨ l = 1 ∨ l = 2 ∨ l = 3 ∨ l = 4 ∨ l = 5 by omega) with rfl | rfl | rfl | rfl | rfl | rfl <;> first | rfl | exact absurd rfl hne
theorem okp_M6 (h : pv_ok κ x L f Z) (v : Int32) : pv_ok κ x L (va_up f (x 11 2) (.inr (5, [.ref (x 11 0), .ref (x 11 1), .int (Z 11 2 0), .ref (x 11 3), .ref (x 11 4), .ref (x 11 5), .int v, .int (Z 11 7 0), .int (Z 11 8 0), .int (Z 11 9 0), .int (Z 11 10 0), .int (Z 11 11 0)]))) (pv_ui Z 11 6 v) := by
  refine ok_put h (by decide) (by rw [pv_ui, pv_uu]; rfl) (fun l hl hne => ?_) (fun j hj => pv_u_o hj)
  rw [pv_ui, pv_uu]
  have hl2 : l < 6 := hl
  rcases (show l = 0 ∨ l = 1 ∨ l = 2 ∨ l = 3 ∨ l = 4 ∨ l = 5 by omega) with rfl | rfl | rfl | rfl | rfl | rfl <;> first | rfl | exact absurd rfl hne
theorem okp_M7 (h : pv_ok κ x L f Z) (v : Int32) : pv_ok κ x L (va_up f (x 11 2) (.inr (5, [.ref (x 11 0), .ref (x 11 1), .int (Z 11 2 0), .ref (x 11 3), .ref (x 11 4), .ref (x 11 5), .int (Z 11 6 0), .int v, .int (Z 11 8 0), .int (Z 11 9 0), .int (Z 11 10 0), .int (Z 11 11 0)]))) (pv_ui Z 11 7 v) := by
  refine ok_put h (by decide) (by rw [pv_ui, pv_uu]; rfl) (fun l hl hne => ?_) (fun j hj => pv_u_o hj)
  rw [pv_ui, pv_uu]
  have hl2 : l < 6 := hl
  rcases (show l = 0 ∨ l = 1 ∨ l = 2 ∨ l = 3 ∨ l = 4 ∨ l = 5 by omega) with rfl | rfl | rfl | rfl | rfl | rfl <;> first | rfl | exact absurd rfl hne
theorem okp_M8 (h : pv_ok κ x L f Z) (v : Int32) : pv_ok κ x L (va_up f (x 11 2) (.inr (5, [.ref (x 11 0), .ref (x 11 1), .int (Z 11 2 0), .ref (x 11 3), .ref (x 11 4), .ref (x 11 5), .int (Z 11 6 0), .int (Z 11 7 0), .int v, .int (Z 11 9 0), .int (Z 11 10 0), .int (Z 11 11 0)]))) (pv_ui Z 11 8 v) := by
  refine ok_put h (by decide) (by rw [pv_ui, pv_uu]; rfl) (fun l hl hne => ?_) (fun j hj => pv_u_o hj)
  rw [pv_ui, pv_uu]
  have hl2 : l < 6 := hl
  rcases (show l = 0 ∨ l = 1 ∨ l = 2 ∨ l = 3 ∨ l = 4 ∨ l = 5 by omega) with rfl | rfl | rfl | rfl | rfl | rfl <;> first | rfl | exact absurd rfl hne
theorem okp_M9 (h : pv_ok κ x L f Z) (v : Int32) : pv_ok κ x L (va_up f (x 11 2) (.inr (5, [.ref (x 11 0), .ref (x 11 1), .int (Z 11 2 0), .ref (x 11 3), .ref (x 11 4), .ref (x 11 5), .int (Z 11 6 0), .int (Z 11 7 0), .int (Z 11 8 0), .int v, .int (Z 11 10 0), .int (Z 11 11 0)]))) (pv_ui Z 11 9 v) := by
  refine ok_put h (by decide) (by rw [pv_ui, pv_uu]; rfl) (fun l hl hne => ?_) (fun j hj => pv_u_o hj)
  rw [pv_ui, pv_uu]
  have hl2 : l < 6 := hl
  rcases (show l = 0 ∨ l = 1 ∨ l = 2 ∨ l = 3 ∨ l = 4 ∨ l = 5 by omega) with rfl | rfl | rfl | rfl | rfl | rfl <;> first | rfl | exact absurd rfl hne
theorem okp_M10 (h : pv_ok κ x L f Z) (v : Int32) : pv_ok κ x L (va_up f (x 11 2) (.inr (5, [.ref (x 11 0), .ref (x 11 1), .int (Z 11 2 0), .ref (x 11 3), .ref (x 11 4), .ref (x 11 5), .int (Z 11 6 0), .int (Z 11 7 0), .int (Z 11 8 0), .int (Z 11 9 0), .int v, .int (Z 11 11 0)]))) (pv_ui Z 11 10 v) := by
  refine ok_put h (by decide) (by rw [pv_ui, pv_uu]; rfl) (fun l hl hne => ?_) (fun j hj => pv_u_o hj)
  rw [pv_ui, pv_uu]
  have hl2 : l < 6 := hl
  rcases (show l = 0 ∨ l = 1 ∨ l = 2 ∨ l = 3 ∨ l = 4 ∨ l = 5 by omega) with rfl | rfl | rfl | rfl | rfl | rfl <;> first | rfl | exact absurd rfl hne
theorem okp_M11 (h : pv_ok κ x L f Z) (v : Int32) : pv_ok κ x L (va_up f (x 11 2) (.inr (5, [.ref (x 11 0), .ref (x 11 1), .int (Z 11 2 0), .ref (x 11 3), .ref (x 11 4), .ref (x 11 5), .int (Z 11 6 0), .int (Z 11 7 0), .int (Z 11 8 0), .int (Z 11 9 0), .int (Z 11 10 0), .int v]))) (pv_ui Z 11 11 v) := by
  refine ok_put h (by decide) (by rw [pv_ui, pv_uu]; rfl) (fun l hl hne => ?_) (fun j hj => pv_u_o hj)
  rw [pv_ui, pv_uu]
  have hl2 : l < 6 := hl
  rcases (show l = 0 ∨ l = 1 ∨ l = 2 ∨ l = 3 ∨ l = 4 ∨ l = 5 by omega) with rfl | rfl | rfl | rfl | rfl | rfl <;> first | rfl | exact absurd rfl hne
theorem okp_H1 (h : pv_ok κ x L f Z) (v : Int32) : pv_ok κ x L (va_up f (x 12 0) (.inr (0, [.ref (x 12 1), .int v, .int (Z 12 2 0)]))) (pv_ui Z 12 1 v) := by
  refine ok_put h (by decide) (by rw [pv_ui, pv_uu]; rfl) (fun l hl hne => ?_) (fun j hj => pv_u_o hj)
  rw [pv_ui, pv_uu]
  have hl2 : l < 5 := hl
  rcases (show l = 0 ∨ l = 1 ∨ l = 2 ∨ l = 3 ∨ l = 4 by omega) with rfl | rfl | rfl | rfl | rfl <;> first | rfl | exact absurd rfl hne
theorem okp_H2 (h : pv_ok κ x L f Z) (v : Int32) : pv_ok κ x L (va_up f (x 12 0) (.inr (0, [.ref (x 12 1), .int (Z 12 1 0), .int v]))) (pv_ui Z 12 2 v) := by
  refine ok_put h (by decide) (by rw [pv_ui, pv_uu]; rfl) (fun l hl hne => ?_) (fun j hj => pv_u_o hj)
  rw [pv_ui, pv_uu]
  have hl2 : l < 5 := hl
  rcases (show l = 0 ∨ l = 1 ∨ l = 2 ∨ l = 3 ∨ l = 4 by omega) with rfl | rfl | rfl | rfl | rfl <;> first | rfl | exact absurd rfl hne
theorem okp_X4 (h : pv_ok κ x L f Z) : pv_ok κ x L (va_up f (x 12 4) (.inl (κ.2.1 2, 2, .inl row))) (pv_u Z 12 4 row) := by
  refine ok_put h (by decide) (by rw [pv_uu]; rfl) (fun l hl hne => ?_) (fun j hj => pv_u_o hj)
  rw [pv_uu]
  have hl2 : l < 5 := hl
  rcases (show l = 0 ∨ l = 1 ∨ l = 2 ∨ l = 3 ∨ l = 4 by omega) with rfl | rfl | rfl | rfl | rfl <;> first | rfl | exact absurd rfl hne
end PVO
end
section
/-- one place of one row of a group's table -/
def zu (z : Nat → Nat → Int32) (k j : Nat) (v : Int32) : Nat → Nat → Int32 := va_up z k (va_up (z k) j v)
theorem zu_o {z : Nat → Nat → Int32} {k j l : Nat} {v : Int32} (h : l ≠ k) : zu z k j v l = z l := by simp [zu, va_up, h]
theorem zu_e {z : Nat → Nat → Int32} {k j : Nat} {v : Int32} : zu z k j v k = va_up (z k) j v := by simp [zu, va_up]
theorem zu_ee {z : Nat → Nat → Int32} {k j : Nat} {v : Int32} : zu z k j v k j = v := by simp [zu, va_up]
theorem zu_en {z : Nat → Nat → Int32} {k j q : Nat} {v : Int32} (h : q ≠ j) : zu z k j v k q = z k q := by simp [zu, va_up, h]
theorem zu_comm {z : Nat → Nat → Int32} {k j k2 j2 : Nat} {v v2 : Int32} (h : k ≠ k2) : zu (zu z k j v) k2 j2 v2 = zu (zu z k2 j2 v2) k j v := by
  funext a b
  simp only [zu, va_up]
  by_cases h1 : a = k2
  · subst h1
    simp [Ne.symm h]
  · by_cases h2 : a = k
    · subst h2
      simp [h, h1]
    · simp [h1, h2]
theorem va_up_e {α : Type} {Z : Nat → α} {i : Nat} {z : α} : va_up Z i z i = z := by simp [va_up]
theorem va_up_i {α : Type} (Z : Nat → α) (i : Nat) : va_up Z i (Z i) = Z := by
  funext a
  by_cases h : a = i
  · subst h; simp [va_up]
  · simp [va_up, h]
section PVS
variable {κ : pv_Kt} {x : Nat → Nat → Nat} {L : List Nat} {f : Nat → va_E} {Z : Nat → Nat → Nat → Int32} {z : Nat → Nat → Int32} {i k j : Nat}
theorem og_u {row : Nat → Int32} {g : Nat → va_E} (h : pv_ok κ x L g (pv_u (va_up Z i z) i k row)) : pv_ok κ x L g (va_up Z i (va_up z k row)) := by
  have e : pv_u (va_up Z i z) i k row = va_up Z i (va_up z k row) := by rw [pv_u, bx_uu, va_up_e]
  rw [← e]; exact h
/-- an own int field stands at the row's place 0 alone -/
theorem og_zS {g : Nat → va_E} {v : Int32} (hi : i < 9) (hk : k = 1 ∨ k = 14) (h : pv_ok κ x L g (va_up Z i (va_up z k (fun _ => v)))) : pv_ok κ x L g (va_up Z i (zu z k 0 v)) := by
  refine ⟨h.1, h.2.1, fun a b hb => ?_⟩
  rw [h.2.2 a b hb]
  by_cases e : a = i
  · subst e
    simp only [va_up_e]
    have hb14 : b < 14 := by simp only [pv_n, if_pos hi] at hb; exact hb
    simp only [pv_eg, if_pos hi]
    by_cases b1 : b = 1
    · subst b1
      rcases hk with rfl | rfl <;> simp [pv_so, zu, va_up]
    · have hbk : b ≠ k := by omega
      simp [b1, zu, va_up, hbk]
  · simp [va_up, e]
end PVS
section PVT
variable {κ : pv_Kt} {p : Program} {l : Launch} {e : Env} {R : Room} {s : State} {m : MethodId} {args : Array Value} {below : List Frame} {meth : Method} {c : Code} {Q : State → Prop} {A : Nat → Prop} {nL : Nat} {cells slots : Nat} {L : List Nat} {f : Nat → va_E} {pc : Nat} {vs : List (Nat × Value)} {st : List Value}
variable {y : MethodName} {cc : ByteArray} {Ts : List Cond} {rt : Option FieldType}
variable {x : Nat → Nat → Nat} {Z : Nat → Nat → Nat → Int32} {z : Nat → Nat → Int32} {i : Nat}
theorem pv_sl_le : ∀ k : Nat, pv_sl k ≤ 120 := fun k => by unfold pv_sl; split <;> decide
theorem pv_soR {a : Nat → Nat} {w : Nat → Nat → Int32} : ∀ k : Nat, k < 14 → k ≠ 1 → (pv_so a w)[k]? = some (.ref (a k))
  | 0, _, _ => rfl | 1, _, h => absurd rfl h | 2, _, _ => rfl | 3, _, _ => rfl | 4, _, _ => rfl | 5, _, _ => rfl | 6, _, _ => rfl | 7, _, _ => rfl | 8, _, _ => rfl | 9, _, _ => rfl | 10, _, _ => rfl | 11, _, _ => rfl | 12, _, _ => rfl | 13, _, _ => rfl
  | k + 14, h, _ => absurd h (by omega)

theorem og_So (hok : pv_ok κ x L f (va_up Z i z)) (hi : i < 9) : f (x i 1) = .inr (3, pv_so (x i) z) := by
  have h := ok_So hok hi
  rw [va_up_e] at h
  exact h
theorem og_Sa (hok : pv_ok κ x L f (va_up Z i z)) (hi : i < 9) (k : Nat) (hk : k < 14) (h1 : k ≠ 1) : f (x i k) = .inl (κ.2.1 1, pv_sl k, .inl (z k)) := by
  have h := ok_Sa hok hi k hk h1
  rw [va_up_e] at h
  exact h
theorem pgS_geta (hC : pv_C κ p R s m args meth c y cc nL Ts rt A) {index : Nat} (hdg : decode cc pc = .ok (.getfield index, 3)) (k : Nat) (hlink : Cond.fieldLink y.cls index RX3 (TX3 k).2.1 (TX3 k).2.2.1 ∈ Ts) (hin : ∀ w ∈ wsX30, w ∈ Ts) (hok : pv_ok κ x L f (va_up Z i z)) (hi : i < 9) (hk : k < 14) (h1 : k ≠ 1) (hT : (TX3 k).1 = RX3) (kk : pv_G κ p l e R s m args below meth c Q A nL cells slots L f (pc + 3) vs (.ref (x i k) :: st)) : pv_G κ p l e R s m args below meth c Q A nL cells slots L f pc vs (.ref (x i 1) :: st) :=
  pg_get hC hdg k hin hlink (ok_Sm hok hi 1 (by decide)) (og_So hok hi) rfl (by omega) hT (pv_soR k hk h1) kk
theorem pgS_geti (hC : pv_C κ p R s m args meth c y cc nL Ts rt A) {index : Nat} {v : Int32} (hdg : decode cc pc = .ok (.getfield index, 3)) (k : Nat) (hlink : Cond.fieldLink y.cls index RX3 (TX3 k).2.1 (TX3 k).2.2.1 ∈ Ts) (hin : ∀ w ∈ wsX30, w ∈ Ts) (hok : pv_ok κ x L f (va_up Z i z)) (hi : i < 9) (hk : k = 1 ∨ k = 14) (hv : z k 0 = v) (kk : pv_G κ p l e R s m args below meth c Q A nL cells slots L f (pc + 3) vs (.int v :: st)) : pv_G κ p l e R s m args below meth c Q A nL cells slots L f pc vs (.ref (x i 1) :: st) := by
  subst hv
  rcases hk with rfl | rfl
  · exact pg_get hC hdg 1 hin hlink (ok_Sm hok hi 1 (by decide)) (og_So hok hi) rfl (by decide) rfl rfl kk
  · exact pg_get hC hdg 14 hin hlink (ok_Sm hok hi 1 (by decide)) (og_So hok hi) rfl (by decide) rfl rfl kk
theorem pgS_puti (hC : pv_C κ p R s m args meth c y cc nL Ts rt A) {index : Nat} {v : Int32} (hdg : decode cc pc = .ok (.putfield index, 3)) (k : Nat) (hlink : Cond.fieldLink y.cls index RX3 (TX3 k).2.1 (TX3 k).2.2.1 ∈ Ts) (hin : ∀ w ∈ wsX30, w ∈ Ts) (hok : pv_ok κ x L f (va_up Z i z)) (hi : i < 9) (hk : k = 1 ∨ k = 14) (kk : ∀ f2 : Nat → va_E, pv_ok κ x L f2 (va_up Z i (zu z k 0 v)) → pv_G κ p l e R s m args below meth c Q A nL cells slots L f2 (pc + 3) vs st) : pv_G κ p l e R s m args below meth c Q A nL cells slots L f pc vs (.int v :: .ref (x i 1) :: st) := by
  have e1 : va_up Z i z i = z := va_up_e
  rcases hk with rfl | rfl
  · refine pg_put (ty := .int) hC hdg 1 hin tyX3 tyX3_ok nmX3 hlink (ok_Sm hok hi 1 (by decide)) (og_So hok hi) rfl (by decide) rfl rfl (by decide +kernel) rfl rfl (Nat.le_of_ble_eq_true rfl) (kk _ ?_)
    have h := okp_So hok hi v
    rw [e1] at h
    exact og_zS hi (Or.inl rfl) (og_u h)
  · refine pg_put (ty := .int) hC hdg 14 hin tyX3 tyX3_ok nmX3 hlink (ok_Sm hok hi 1 (by decide)) (og_So hok hi) rfl (by decide) rfl rfl (by decide +kernel) rfl rfl (Nat.le_of_ble_eq_true rfl) (kk _ ?_)
    have h := okp_St hok hi v
    rw [e1] at h
    exact og_zS hi (Or.inr rfl) (og_u h)
theorem pgS_iald (hC : pv_C κ p R s m args meth c y cc nL Ts rt A) {ix v : Int32} (hdg : decode cc pc = .ok (.iaload, 1)) (k j : Nat) (hok : pv_ok κ x L f (va_up Z i z)) (hi : i < 9) (hk : k < 14) (h1 : k ≠ 1) (hix : ix = nI j) (hj : j < pv_sl k) (hv : z k j = v) (kk : pv_G κ p l e R s m args below meth c Q A nL cells slots L f (pc + 1) vs (.int v :: st)) : pv_G κ p l e R s m args below meth c Q A nL cells slots L f pc vs (.int ix :: .ref (x i k) :: st) :=
  pg_iald hC hdg j (ok_Sm hok hi k hk) (og_Sa hok hi k hk h1) hix hj (Nat.lt_of_le_of_lt (pv_sl_le k) (by decide)) hv kk
theorem pgS_iast (hC : pv_C κ p R s m args meth c y cc nL Ts rt A) {ix v : Int32} (hdg : decode cc pc = .ok (.iastore, 1)) (k j : Nat) (hok : pv_ok κ x L f (va_up Z i z)) (hi : i < 9) (hk : k < 14) (h1 : k ≠ 1) (hix : ix = nI j) (hj : j < pv_sl k) (kk : ∀ f2 : Nat → va_E, pv_ok κ x L f2 (va_up Z i (zu z k j v)) → pv_G κ p l e R s m args below meth c Q A nL cells slots L f2 (pc + 1) vs st) : pv_G κ p l e R s m args below meth c Q A nL cells slots L f pc vs (.int v :: .int ix :: .ref (x i k) :: st) :=
  pg_iast hC hdg j (ok_Sm hok hi k hk) (og_Sa hok hi k hk h1) hix hj (Nat.lt_of_le_of_lt (pv_sl_le k) (by decide)) (kk _ (og_u (okp_Sa hok hi hk h1 rfl)))
theorem pgS_alen (hC : pv_C κ p R s m args meth c y cc nL Ts rt A) {v : Int32} (hdg : decode cc pc = .ok (.arraylength, 1)) (k : Nat) (hok : pv_ok κ x L f (va_up Z i z)) (hi : i < 9) (hk : k < 14) (h1 : k ≠ 1) (hv : nI (pv_sl k) = v) (kk : pv_G κ p l e R s m args below meth c Q A nL cells slots L f (pc + 1) vs (.int v :: st)) : pv_G κ p l e R s m args below meth c Q A nL cells slots L f pc vs (.ref (x i k) :: st) :=
  pg_alen hC hdg 1 rfl (ok_Sm hok hi k hk) (og_Sa hok hi k hk h1) hv kk
theorem og_Mo (hok : pv_ok κ x L f (va_up Z 11 z)) : f (x 11 2) = .inr (5, pv_mo (x 11) z) := ok_Mo hok
theorem og_Ma (hok : pv_ok κ x L f (va_up Z 11 z)) (k : Nat) (hk : k < 6) (h2 : k ≠ 2) (h4 : k ≠ 4) : f (x 11 k) = .inl (κ.2.1 1, pv_ml k, .inl (z k)) := ok_Ma hok k hk h2 h4
theorem og_Mb (hok : pv_ok κ x L f (va_up Z 11 z)) : f (x 11 4) = .inl (κ.2.1 2, 2, .inl (z 4)) := ok_Mb hok
theorem ogz_11 {k : Nat} {g : Nat → va_E} {v : Int32} (hk : k = 2 ∨ k = 6 ∨ k = 7 ∨ k = 8 ∨ k = 9 ∨ k = 10 ∨ k = 11) (h : pv_ok κ x L g (va_up Z 11 (va_up z k (fun _ => v)))) : pv_ok κ x L g (va_up Z 11 (zu z k 0 v)) := by
  refine ⟨h.1, h.2.1, fun a b hb => ?_⟩
  rw [h.2.2 a b hb]
  by_cases e : a = 11
  · subst e
    simp only [va_up_e]
    have hb2 : b < 6 := hb
    rcases (show b = 0 ∨ b = 1 ∨ b = 2 ∨ b = 3 ∨ b = 4 ∨ b = 5 by omega) with rfl | rfl | rfl | rfl | rfl | rfl <;> rcases hk with rfl | rfl | rfl | rfl | rfl | rfl | rfl <;> rfl
  · simp [va_up, e]
theorem ogz_9 {k : Nat} {g : Nat → va_E} {v : Int32} (hk : k = 1) (h : pv_ok κ x L g (va_up Z 9 (va_up z k (fun _ => v)))) : pv_ok κ x L g (va_up Z 9 (zu z k 0 v)) := by
  refine ⟨h.1, h.2.1, fun a b hb => ?_⟩
  rw [h.2.2 a b hb]
  by_cases e : a = 9
  · subst e
    simp only [va_up_e]
    have hb2 : b < 2 := hb
    rcases (show b = 0 ∨ b = 1 by omega) with rfl | rfl <;> rcases hk with rfl <;> rfl
  · simp [va_up, e]
theorem ogz_10 {k : Nat} {g : Nat → va_E} {v : Int32} (hk : k = 0 ∨ k = 1 ∨ k = 2 ∨ k = 3 ∨ k = 4) (h : pv_ok κ x L g (va_up Z 10 (va_up z k (fun _ => v)))) : pv_ok κ x L g (va_up Z 10 (zu z k 0 v)) := by
  refine ⟨h.1, h.2.1, fun a b hb => ?_⟩
  rw [h.2.2 a b hb]
  by_cases e : a = 10
  · subst e
    simp only [va_up_e]
    have hb2 : b < 1 := hb
    rcases (show b = 0 by omega) with rfl <;> rcases hk with rfl | rfl | rfl | rfl | rfl <;> rfl
  · simp [va_up, e]
theorem ogz_12 {k : Nat} {g : Nat → va_E} {v : Int32} (hk : k = 1 ∨ k = 2) (h : pv_ok κ x L g (va_up Z 12 (va_up z k (fun _ => v)))) : pv_ok κ x L g (va_up Z 12 (zu z k 0 v)) := by
  refine ⟨h.1, h.2.1, fun a b hb => ?_⟩
  rw [h.2.2 a b hb]
  by_cases e : a = 12
  · subst e
    simp only [va_up_e]
    have hb2 : b < 5 := hb
    rcases (show b = 0 ∨ b = 1 ∨ b = 2 ∨ b = 3 ∨ b = 4 by omega) with rfl | rfl | rfl | rfl | rfl <;> rcases hk with rfl | rfl <;> rfl
  · simp [va_up, e]
theorem pgM_geta (hC : pv_C κ p R s m args meth c y cc nL Ts rt A) {index : Nat} (hdg : decode cc pc = .ok (.getfield index, 3)) (k : Nat) (hlink : Cond.fieldLink y.cls index RX5 (TX5 k).2.1 (TX5 k).2.2.1 ∈ Ts) (hin : ∀ w ∈ wsX50, w ∈ Ts) (hok : pv_ok κ x L f (va_up Z 11 z)) (hk : k = 0 ∨ k = 1 ∨ k = 3 ∨ k = 4 ∨ k = 5) (kk : pv_G κ p l e R s m args below meth c Q A nL cells slots L f (pc + 3) vs (.ref (x 11 k) :: st)) : pv_G κ p l e R s m args below meth c Q A nL cells slots L f pc vs (.ref (x 11 2) :: st) := by
  rcases hk with rfl | rfl | rfl | rfl | rfl <;> exact pg_get hC hdg _ hin hlink (ok_mem hok (by decide)) (og_Mo hok) rfl (by decide) rfl rfl kk
theorem pgM_geti (hC : pv_C κ p R s m args meth c y cc nL Ts rt A) {index : Nat} {v : Int32} (hdg : decode cc pc = .ok (.getfield index, 3)) (k : Nat) (hlink : Cond.fieldLink y.cls index RX5 (TX5 k).2.1 (TX5 k).2.2.1 ∈ Ts) (hin : ∀ w ∈ wsX50, w ∈ Ts) (hok : pv_ok κ x L f (va_up Z 11 z)) (hk : k = 2 ∨ k = 6 ∨ k = 7 ∨ k = 8 ∨ k = 9 ∨ k = 10 ∨ k = 11) (hv : z k 0 = v) (kk : pv_G κ p l e R s m args below meth c Q A nL cells slots L f (pc + 3) vs (.int v :: st)) : pv_G κ p l e R s m args below meth c Q A nL cells slots L f pc vs (.ref (x 11 2) :: st) := by
  subst hv
  rcases hk with rfl | rfl | rfl | rfl | rfl | rfl | rfl <;> exact pg_get hC hdg _ hin hlink (ok_mem hok (by decide)) (og_Mo hok) rfl (by decide) rfl rfl kk
theorem pgM_puti (hC : pv_C κ p R s m args meth c y cc nL Ts rt A) {index : Nat} {v : Int32} (hdg : decode cc pc = .ok (.putfield index, 3)) (k : Nat) (hlink : Cond.fieldLink y.cls index RX5 (TX5 k).2.1 (TX5 k).2.2.1 ∈ Ts) (hin : ∀ w ∈ wsX50, w ∈ Ts) (hok : pv_ok κ x L f (va_up Z 11 z)) (hk : k = 2 ∨ k = 6 ∨ k = 7 ∨ k = 8 ∨ k = 9 ∨ k = 10 ∨ k = 11) (kk : ∀ f2 : Nat → va_E, pv_ok κ x L f2 (va_up Z 11 (zu z k 0 v)) → pv_G κ p l e R s m args below meth c Q A nL cells slots L f2 (pc + 3) vs st) : pv_G κ p l e R s m args below meth c Q A nL cells slots L f pc vs (.int v :: .ref (x 11 2) :: st) := by
  rcases hk with rfl | rfl | rfl | rfl | rfl | rfl | rfl
  · refine pg_put (ty := .int) hC hdg 2 hin tyX5 tyX5_ok nmX5 hlink (ok_mem hok (by decide)) (og_Mo hok) rfl (by decide) rfl rfl (by decide +kernel) rfl rfl (Nat.le_of_ble_eq_true rfl) (kk _ ?_)
    exact ogz_11 (by decide) (og_u (okp_M2 hok v))
  · refine pg_put (ty := .int) hC hdg 6 hin tyX5 tyX5_ok nmX5 hlink (ok_mem hok (by decide)) (og_Mo hok) rfl (by decide) rfl rfl (by decide +kernel) rfl rfl (Nat.le_of_ble_eq_true rfl) (kk _ ?_)
    exact ogz_11 (by decide) (og_u (okp_M6 hok v))
  · refine pg_put (ty := .int) hC hdg 7 hin tyX5 tyX5_ok nmX5 hlink (ok_mem hok (by decide)) (og_Mo hok) rfl (by decide) rfl rfl (by decide +kernel) rfl rfl (Nat.le_of_ble_eq_true rfl) (kk _ ?_)
    exact ogz_11 (by decide) (og_u (okp_M7 hok v))
  · refine pg_put (ty := .int) hC hdg 8 hin tyX5 tyX5_ok nmX5 hlink (ok_mem hok (by decide)) (og_Mo hok) rfl (by decide) rfl rfl (by decide +kernel) rfl rfl (Nat.le_of_ble_eq_true rfl) (kk _ ?_)
    exact ogz_11 (by decide) (og_u (okp_M8 hok v))
  · refine pg_put (ty := .int) hC hdg 9 hin tyX5 tyX5_ok nmX5 hlink (ok_mem hok (by decide)) (og_Mo hok) rfl (by decide) rfl rfl (by decide +kernel) rfl rfl (Nat.le_of_ble_eq_true rfl) (kk _ ?_)
    exact ogz_11 (by decide) (og_u (okp_M9 hok v))
  · refine pg_put (ty := .int) hC hdg 10 hin tyX5 tyX5_ok nmX5 hlink (ok_mem hok (by decide)) (og_Mo hok) rfl (by decide) rfl rfl (by decide +kernel) rfl rfl (Nat.le_of_ble_eq_true rfl) (kk _ ?_)
    exact ogz_11 (by decide) (og_u (okp_M10 hok v))
  · refine pg_put (ty := .int) hC hdg 11 hin tyX5 tyX5_ok nmX5 hlink (ok_mem hok (by decide)) (og_Mo hok) rfl (by decide) rfl rfl (by decide +kernel) rfl rfl (Nat.le_of_ble_eq_true rfl) (kk _ ?_)
    exact ogz_11 (by decide) (og_u (okp_M11 hok v))
theorem pv_ml_le : ∀ k : Nat, pv_ml k ≤ 1404 := fun k => by unfold pv_ml; split <;> decide
theorem pgM_iald (hC : pv_C κ p R s m args meth c y cc nL Ts rt A) {ix v : Int32} (hdg : decode cc pc = .ok (.iaload, 1)) (k j : Nat) (hok : pv_ok κ x L f (va_up Z 11 z)) (hk : k < 6) (h2 : k ≠ 2) (h4 : k ≠ 4) (hix : ix = nI j) (hj : j < pv_ml k) (hv : z k j = v) (kk : pv_G κ p l e R s m args below meth c Q A nL cells slots L f (pc + 1) vs (.int v :: st)) : pv_G κ p l e R s m args below meth c Q A nL cells slots L f pc vs (.int ix :: .ref (x 11 k) :: st) :=
  pg_iald hC hdg j (ok_mem hok hk) (og_Ma hok k hk h2 h4) hix hj (Nat.lt_of_le_of_lt (pv_ml_le k) (by decide)) hv kk
theorem pgM_iast (hC : pv_C κ p R s m args meth c y cc nL Ts rt A) {ix v : Int32} (hdg : decode cc pc = .ok (.iastore, 1)) (k j : Nat) (hok : pv_ok κ x L f (va_up Z 11 z)) (hk : k = 0 ∨ k = 1 ∨ k = 3 ∨ k = 5) (hix : ix = nI j) (hj : j < pv_ml k) (kk : ∀ f2 : Nat → va_E, pv_ok κ x L f2 (va_up Z 11 (zu z k j v)) → pv_G κ p l e R s m args below meth c Q A nL cells slots L f2 (pc + 1) vs st) : pv_G κ p l e R s m args below meth c Q A nL cells slots L f pc vs (.int v :: .int ix :: .ref (x 11 k) :: st) := by
  rcases hk with rfl | rfl | rfl | rfl
  · exact pg_iast hC hdg j (ok_mem hok (by decide)) (og_Ma hok 0 (by decide) (by decide) (by decide)) hix hj (by decide) (kk _ (og_u (okp_M0 hok)))
  · exact pg_iast hC hdg j (ok_mem hok (by decide)) (og_Ma hok 1 (by decide) (by decide) (by decide)) hix hj (by decide) (kk _ (og_u (okp_M1 hok)))
  · exact pg_iast hC hdg j (ok_mem hok (by decide)) (og_Ma hok 3 (by decide) (by decide) (by decide)) hix hj (by decide) (kk _ (og_u (okp_M3 hok)))
  · exact pg_iast hC hdg j (ok_mem hok (by decide)) (og_Ma hok 5 (by decide) (by decide) (by decide)) hix hj (by decide) (kk _ (og_u (okp_M5 hok)))
theorem pgM_zald (hC : pv_C κ p R s m args meth c y cc nL Ts rt A) {ix v : Int32} (hdg : decode cc pc = .ok (.baload, 1)) (j : Nat) (hok : pv_ok κ x L f (va_up Z 11 z)) (hix : ix = nI j) (hj : j < 2) (hv : z 4 j = v) (kk : pv_G κ p l e R s m args below meth c Q A nL cells slots L f (pc + 1) vs (.int v :: st)) : pv_G κ p l e R s m args below meth c Q A nL cells slots L f pc vs (.int ix :: .ref (x 11 4) :: st) :=
  pg_zald hC hdg j (ok_mem hok (by decide)) (og_Mb hok) hix hj (by decide) hv kk
theorem pgM_zast (hC : pv_C κ p R s m args meth c y cc nL Ts rt A) {ix v : Int32} (hdg : decode cc pc = .ok (.bastore, 1)) (j : Nat) (hok : pv_ok κ x L f (va_up Z 11 z)) (hix : ix = nI j) (hj : j < 2) (hx : vp_nar .boolean v = v) (kk : ∀ f2 : Nat → va_E, pv_ok κ x L f2 (va_up Z 11 (zu z 4 j v)) → pv_G κ p l e R s m args below meth c Q A nL cells slots L f2 (pc + 1) vs st) : pv_G κ p l e R s m args below meth c Q A nL cells slots L f pc vs (.int v :: .int ix :: .ref (x 11 4) :: st) :=
  pg_zast hC hdg j (ok_mem hok (by decide)) (og_Mb hok) hix hj (by decide) hx (kk _ (og_u (okp_M4 hok)))
theorem pgP_geta (hC : pv_C κ p R s m args meth c y cc nL Ts rt A) {index : Nat} (hdg : decode cc pc = .ok (.getfield index, 3)) (k : Nat) (hlink : Cond.fieldLink y.cls index RX1 (TX1 k).2.1 (TX1 k).2.2.1 ∈ Ts) (hin : ∀ w ∈ wsX10, w ∈ Ts) (hok : pv_ok κ x L f (va_up Z 9 z)) (hk : k = 0) (kk : pv_G κ p l e R s m args below meth c Q A nL cells slots L f (pc + 3) vs (.ref (x 9 k) :: st)) : pv_G κ p l e R s m args below meth c Q A nL cells slots L f pc vs (.ref (x 9 1) :: st) := by
  subst hk <;> exact pg_get hC hdg _ hin hlink (ok_mem hok (by decide)) (ok_Po hok) rfl (by decide) rfl rfl kk
theorem pgP_geti (hC : pv_C κ p R s m args meth c y cc nL Ts rt A) {index : Nat} {v : Int32} (hdg : decode cc pc = .ok (.getfield index, 3)) (k : Nat) (hlink : Cond.fieldLink y.cls index RX1 (TX1 k).2.1 (TX1 k).2.2.1 ∈ Ts) (hin : ∀ w ∈ wsX10, w ∈ Ts) (hok : pv_ok κ x L f (va_up Z 9 z)) (hk : k = 1) (hv : z k 0 = v) (kk : pv_G κ p l e R s m args below meth c Q A nL cells slots L f (pc + 3) vs (.int v :: st)) : pv_G κ p l e R s m args below meth c Q A nL cells slots L f pc vs (.ref (x 9 1) :: st) := by
  subst hv
  subst hk <;> exact pg_get hC hdg _ hin hlink (ok_mem hok (by decide)) (ok_Po hok) rfl (by decide) rfl rfl kk
theorem pgP_puti (hC : pv_C κ p R s m args meth c y cc nL Ts rt A) {index : Nat} {v : Int32} (hdg : decode cc pc = .ok (.putfield index, 3)) (k : Nat) (hlink : Cond.fieldLink y.cls index RX1 (TX1 k).2.1 (TX1 k).2.2.1 ∈ Ts) (hin : ∀ w ∈ wsX10, w ∈ Ts) (hok : pv_ok κ x L f (va_up Z 9 z)) (hk : k = 1) (kk : ∀ f2 : Nat → va_E, pv_ok κ x L f2 (va_up Z 9 (zu z k 0 v)) → pv_G κ p l e R s m args below meth c Q A nL cells slots L f2 (pc + 3) vs st) : pv_G κ p l e R s m args below meth c Q A nL cells slots L f pc vs (.int v :: .ref (x 9 1) :: st) := by
  subst hk
  · refine pg_put (ty := .int) hC hdg 1 hin tyX1 tyX1_ok nmX1 hlink (ok_mem hok (by decide)) (ok_Po hok) rfl (by decide) rfl rfl (by decide +kernel) rfl rfl (Nat.le_of_ble_eq_true rfl) (kk _ ?_)
    exact ogz_9 (by decide) (og_u (okp_Po hok v))
theorem pgP_cald (hC : pv_C κ p R s m args meth c y cc nL Ts rt A) {ix v : Int32} (hdg : decode cc pc = .ok (.caload, 1)) (j : Nat) (hok : pv_ok κ x L f (va_up Z 9 z)) (hix : ix = nI j) (hj : j < 60) (hv : z 0 j = v) (kk : pv_G κ p l e R s m args below meth c Q A nL cells slots L f (pc + 1) vs (.int v :: st)) : pv_G κ p l e R s m args below meth c Q A nL cells slots L f pc vs (.int ix :: .ref (x 9 0) :: st) :=
  pg_cald hC hdg j (ok_mem hok (by decide)) (ok_Pa hok) hix hj (by decide) hv kk
theorem pgP_cast (hC : pv_C κ p R s m args meth c y cc nL Ts rt A) {ix v : Int32} (hdg : decode cc pc = .ok (.castore, 1)) (j : Nat) (hok : pv_ok κ x L f (va_up Z 9 z)) (hix : ix = nI j) (hj : j < 60) (hx : vp_nar .char v = v) (kk : ∀ f2 : Nat → va_E, pv_ok κ x L f2 (va_up Z 9 (zu z 0 j v)) → pv_G κ p l e R s m args below meth c Q A nL cells slots L f2 (pc + 1) vs st) : pv_G κ p l e R s m args below meth c Q A nL cells slots L f pc vs (.int v :: .int ix :: .ref (x 9 0) :: st) :=
  pg_cast hC hdg j (ok_mem hok (by decide)) (ok_Pa hok) hix hj (by decide) hx (kk _ (og_u (okp_Pa hok)))
theorem pgR_geti (hC : pv_C κ p R s m args meth c y cc nL Ts rt A) {index : Nat} {v : Int32} (hdg : decode cc pc = .ok (.getfield index, 3)) (k : Nat) (hlink : Cond.fieldLink y.cls index RX2 (TX2 k).2.1 (TX2 k).2.2.1 ∈ Ts) (hin : ∀ w ∈ wsX20, w ∈ Ts) (hok : pv_ok κ x L f (va_up Z 10 z)) (hk : k = 0 ∨ k = 1 ∨ k = 2 ∨ k = 3 ∨ k = 4) (hv : z k 0 = v) (kk : pv_G κ p l e R s m args below meth c Q A nL cells slots L f (pc + 3) vs (.int v :: st)) : pv_G κ p l e R s m args below meth c Q A nL cells slots L f pc vs (.ref (x 10 0) :: st) := by
  subst hv
  rcases hk with rfl | rfl | rfl | rfl | rfl <;> exact pg_get hC hdg _ hin hlink (ok_mem hok (by decide)) (ok_Ro hok) rfl (by decide) rfl rfl kk
theorem pgR_puti (hC : pv_C κ p R s m args meth c y cc nL Ts rt A) {index : Nat} {v : Int32} (hdg : decode cc pc = .ok (.putfield index, 3)) (k : Nat) (hlink : Cond.fieldLink y.cls index RX2 (TX2 k).2.1 (TX2 k).2.2.1 ∈ Ts) (hin : ∀ w ∈ wsX20, w ∈ Ts) (hok : pv_ok κ x L f (va_up Z 10 z)) (hk : k = 0 ∨ k = 1 ∨ k = 2 ∨ k = 3 ∨ k = 4) (kk : ∀ f2 : Nat → va_E, pv_ok κ x L f2 (va_up Z 10 (zu z k 0 v)) → pv_G κ p l e R s m args below meth c Q A nL cells slots L f2 (pc + 3) vs st) : pv_G κ p l e R s m args below meth c Q A nL cells slots L f pc vs (.int v :: .ref (x 10 0) :: st) := by
  rcases hk with rfl | rfl | rfl | rfl | rfl
  · refine pg_put (ty := .int) hC hdg 0 hin tyX2 tyX2_ok nmX2 hlink (ok_mem hok (by decide)) (ok_Ro hok) rfl (by decide) rfl rfl (by decide +kernel) rfl rfl (Nat.le_of_ble_eq_true rfl) (kk _ ?_)
    exact ogz_10 (by decide) (og_u (okp_R0 hok v))
  · refine pg_put (ty := .int) hC hdg 1 hin tyX2 tyX2_ok nmX2 hlink (ok_mem hok (by decide)) (ok_Ro hok) rfl (by decide) rfl rfl (by decide +kernel) rfl rfl (Nat.le_of_ble_eq_true rfl) (kk _ ?_)
    exact ogz_10 (by decide) (og_u (okp_R1 hok v))
  · refine pg_put (ty := .int) hC hdg 2 hin tyX2 tyX2_ok nmX2 hlink (ok_mem hok (by decide)) (ok_Ro hok) rfl (by decide) rfl rfl (by decide +kernel) rfl rfl (Nat.le_of_ble_eq_true rfl) (kk _ ?_)
    exact ogz_10 (by decide) (og_u (okp_R2 hok v))
  · refine pg_put (ty := .int) hC hdg 3 hin tyX2 tyX2_ok nmX2 hlink (ok_mem hok (by decide)) (ok_Ro hok) rfl (by decide) rfl rfl (by decide +kernel) rfl rfl (Nat.le_of_ble_eq_true rfl) (kk _ ?_)
    exact ogz_10 (by decide) (og_u (okp_R3 hok v))
  · refine pg_put (ty := .int) hC hdg 4 hin tyX2 tyX2_ok nmX2 hlink (ok_mem hok (by decide)) (ok_Ro hok) rfl (by decide) rfl rfl (by decide +kernel) rfl rfl (Nat.le_of_ble_eq_true rfl) (kk _ ?_)
    exact ogz_10 (by decide) (og_u (okp_R4 hok v))
theorem pgH_geta (hC : pv_C κ p R s m args meth c y cc nL Ts rt A) {index : Nat} (hdg : decode cc pc = .ok (.getfield index, 3)) (hlink : Cond.fieldLink y.cls index RX0 (TX0 0).2.1 (TX0 0).2.2.1 ∈ Ts) (hin : ∀ w ∈ wsX00, w ∈ Ts) (hok : pv_ok κ x L f Z) (kk : pv_G κ p l e R s m args below meth c Q A nL cells slots L f (pc + 3) vs (.ref (x 12 1) :: st)) : pv_G κ p l e R s m args below meth c Q A nL cells slots L f pc vs (.ref (x 12 0) :: st) :=
  pg_get hC hdg 0 hin hlink (ok_mem hok (by decide)) (ok_Ho hok) rfl (by decide) rfl rfl kk
theorem pgH_aldq (hC : pv_C κ p R s m args meth c y cc nL Ts rt A) {ix : Int32} (hdg : decode cc pc = .ok (.aaload, 1)) (j : Nat) (hok : pv_ok κ x L f Z) (hix : ix = nI j) (hj : j < 6) (kk : pv_G κ p l e R s m args below meth c Q A nL cells slots L f (pc + 1) vs (.ref (x (1 + j) 1) :: st)) : pv_G κ p l e R s m args below meth c Q A nL cells slots L f pc vs (.int ix :: .ref (x 12 1) :: st) :=
  pg_aldq hC hdg j (ok_mem hok (by decide)) (ok_Hs hok) hix hj (by decide) rfl kk
theorem pgX_aldq (hC : pv_C κ p R s m args meth c y cc nL Ts rt A) {ix : Int32} (hdg : decode cc pc = .ok (.aaload, 1)) (j : Nat) (hok : pv_ok κ x L f Z) (hix : ix = nI j) (hj : j < 2) (kk : pv_G κ p l e R s m args below meth c Q A nL cells slots L f (pc + 1) vs (.ref (x (7 + j) 1) :: st)) : pv_G κ p l e R s m args below meth c Q A nL cells slots L f pc vs (.int ix :: .ref (x 12 3) :: st) :=
  pg_aldq hC hdg j (ok_mem hok (by decide)) (ok_Xs hok) hix hj (by decide) rfl kk
theorem pgH_geti (hC : pv_C κ p R s m args meth c y cc nL Ts rt A) {index : Nat} {v : Int32} (hdg : decode cc pc = .ok (.getfield index, 3)) (k : Nat) (hlink : Cond.fieldLink y.cls index RX0 (TX0 k).2.1 (TX0 k).2.2.1 ∈ Ts) (hin : ∀ w ∈ wsX00, w ∈ Ts) (hok : pv_ok κ x L f (va_up Z 12 z)) (hk : k = 1 ∨ k = 2) (hv : z k 0 = v) (kk : pv_G κ p l e R s m args below meth c Q A nL cells slots L f (pc + 3) vs (.int v :: st)) : pv_G κ p l e R s m args below meth c Q A nL cells slots L f pc vs (.ref (x 12 0) :: st) := by
  subst hv
  rcases hk with rfl | rfl <;> exact pg_get hC hdg _ hin hlink (ok_mem hok (by decide)) (ok_Ho hok) rfl (by decide) rfl rfl kk
theorem pgH_puti (hC : pv_C κ p R s m args meth c y cc nL Ts rt A) {index : Nat} {v : Int32} (hdg : decode cc pc = .ok (.putfield index, 3)) (k : Nat) (hlink : Cond.fieldLink y.cls index RX0 (TX0 k).2.1 (TX0 k).2.2.1 ∈ Ts) (hin : ∀ w ∈ wsX00, w ∈ Ts) (hok : pv_ok κ x L f (va_up Z 12 z)) (hk : k = 1 ∨ k = 2) (kk : ∀ f2 : Nat → va_E, pv_ok κ x L f2 (va_up Z 12 (zu z k 0 v)) → pv_G κ p l e R s m args below meth c Q A nL cells slots L f2 (pc + 3) vs st) : pv_G κ p l e R s m args below meth c Q A nL cells slots L f pc vs (.int v :: .ref (x 12 0) :: st) := by
  rcases hk with rfl | rfl
  · refine pg_put (ty := .int) hC hdg 1 hin tyX0 tyX0_ok nmX0 hlink (ok_mem hok (by decide)) (ok_Ho hok) rfl (by decide) rfl rfl (by decide +kernel) rfl rfl (Nat.le_of_ble_eq_true rfl) (kk _ ?_)
    exact ogz_12 (by decide) (og_u (okp_H1 hok v))
  · refine pg_put (ty := .int) hC hdg 2 hin tyX0 tyX0_ok nmX0 hlink (ok_mem hok (by decide)) (ok_Ho hok) rfl (by decide) rfl rfl (by decide +kernel) rfl rfl (Nat.le_of_ble_eq_true rfl) (kk _ ?_)
    exact ogz_12 (by decide) (og_u (okp_H2 hok v))
theorem pgX_get0 (hC : pv_C κ p R s m args meth c y cc nL Ts rt A) {index : Nat} (hdg : decode cc pc = .ok (.getfield index, 3)) (hlink : Cond.fieldLink y.cls index RX4 (TX4 0).2.1 (TX4 0).2.2.1 ∈ Ts) (hin : ∀ w ∈ wsX40, w ∈ Ts) (hok : pv_ok κ x L f Z) (kk : pv_G κ p l e R s m args below meth c Q A nL cells slots L f (pc + 3) vs (.ref (x 0 1) :: st)) : pv_G κ p l e R s m args below meth c Q A nL cells slots L f pc vs (.ref (x 12 2) :: st) :=
  pg_get hC hdg 0 hin hlink (ok_mem hok (by decide)) (ok_Xo hok) rfl (by decide) rfl rfl kk
theorem pgX_get1 (hC : pv_C κ p R s m args meth c y cc nL Ts rt A) {index : Nat} (hdg : decode cc pc = .ok (.getfield index, 3)) (hlink : Cond.fieldLink y.cls index RX4 (TX4 1).2.1 (TX4 1).2.2.1 ∈ Ts) (hin : ∀ w ∈ wsX40, w ∈ Ts) (hok : pv_ok κ x L f Z) (kk : pv_G κ p l e R s m args below meth c Q A nL cells slots L f (pc + 3) vs (.ref (x 12 0) :: st)) : pv_G κ p l e R s m args below meth c Q A nL cells slots L f pc vs (.ref (x 12 2) :: st) :=
  pg_get hC hdg 1 hin hlink (ok_mem hok (by decide)) (ok_Xo hok) rfl (by decide) rfl rfl kk
theorem pgX_get2 (hC : pv_C κ p R s m args meth c y cc nL Ts rt A) {index : Nat} (hdg : decode cc pc = .ok (.getfield index, 3)) (hlink : Cond.fieldLink y.cls index RX4 (TX4 2).2.1 (TX4 2).2.2.1 ∈ Ts) (hin : ∀ w ∈ wsX40, w ∈ Ts) (hok : pv_ok κ x L f Z) (kk : pv_G κ p l e R s m args below meth c Q A nL cells slots L f (pc + 3) vs (.ref (x 12 3) :: st)) : pv_G κ p l e R s m args below meth c Q A nL cells slots L f pc vs (.ref (x 12 2) :: st) :=
  pg_get hC hdg 2 hin hlink (ok_mem hok (by decide)) (ok_Xo hok) rfl (by decide) rfl rfl kk
theorem pgX_get3 (hC : pv_C κ p R s m args meth c y cc nL Ts rt A) {index : Nat} (hdg : decode cc pc = .ok (.getfield index, 3)) (hlink : Cond.fieldLink y.cls index RX4 (TX4 3).2.1 (TX4 3).2.2.1 ∈ Ts) (hin : ∀ w ∈ wsX40, w ∈ Ts) (hok : pv_ok κ x L f Z) (kk : pv_G κ p l e R s m args below meth c Q A nL cells slots L f (pc + 3) vs (.ref (x 12 4) :: st)) : pv_G κ p l e R s m args below meth c Q A nL cells slots L f pc vs (.ref (x 12 2) :: st) :=
  pg_get hC hdg 3 hin hlink (ok_mem hok (by decide)) (ok_Xo hok) rfl (by decide) rfl rfl kk
theorem pgX_get4 (hC : pv_C κ p R s m args meth c y cc nL Ts rt A) {index : Nat} (hdg : decode cc pc = .ok (.getfield index, 3)) (hlink : Cond.fieldLink y.cls index RX4 (TX4 4).2.1 (TX4 4).2.2.1 ∈ Ts) (hin : ∀ w ∈ wsX40, w ∈ Ts) (hok : pv_ok κ x L f Z) (kk : pv_G κ p l e R s m args below meth c Q A nL cells slots L f (pc + 3) vs (.ref (x 9 1) :: st)) : pv_G κ p l e R s m args below meth c Q A nL cells slots L f pc vs (.ref (x 12 2) :: st) :=
  pg_get hC hdg 4 hin hlink (ok_mem hok (by decide)) (ok_Xo hok) rfl (by decide) rfl rfl kk
theorem pgX_get5 (hC : pv_C κ p R s m args meth c y cc nL Ts rt A) {index : Nat} (hdg : decode cc pc = .ok (.getfield index, 3)) (hlink : Cond.fieldLink y.cls index RX4 (TX4 5).2.1 (TX4 5).2.2.1 ∈ Ts) (hin : ∀ w ∈ wsX40, w ∈ Ts) (hok : pv_ok κ x L f Z) (kk : pv_G κ p l e R s m args below meth c Q A nL cells slots L f (pc + 3) vs (.ref (x 10 0) :: st)) : pv_G κ p l e R s m args below meth c Q A nL cells slots L f pc vs (.ref (x 12 2) :: st) :=
  pg_get hC hdg 5 hin hlink (ok_mem hok (by decide)) (ok_Xo hok) rfl (by decide) rfl rfl kk
theorem pgX_zald (hC : pv_C κ p R s m args meth c y cc nL Ts rt A) {ix v : Int32} (hdg : decode cc pc = .ok (.baload, 1)) (j : Nat) (hok : pv_ok κ x L f Z) (hix : ix = nI j) (hj : j < 2) (hv : Z 12 4 j = v) (kk : pv_G κ p l e R s m args below meth c Q A nL cells slots L f (pc + 1) vs (.int v :: st)) : pv_G κ p l e R s m args below meth c Q A nL cells slots L f pc vs (.int ix :: .ref (x 12 4) :: st) :=
  pg_zald hC hdg j (ok_mem hok (by decide)) (ok_Xb hok) hix hj (by decide) hv kk
theorem pgX_zast (hC : pv_C κ p R s m args meth c y cc nL Ts rt A) {ix v : Int32} (hdg : decode cc pc = .ok (.bastore, 1)) (j : Nat) (hok : pv_ok κ x L f (va_up Z 12 z)) (hix : ix = nI j) (hj : j < 2) (hx : vp_nar .boolean v = v) (kk : ∀ f2 : Nat → va_E, pv_ok κ x L f2 (va_up Z 12 (zu z 4 j v)) → pv_G κ p l e R s m args below meth c Q A nL cells slots L f2 (pc + 1) vs st) : pv_G κ p l e R s m args below meth c Q A nL cells slots L f pc vs (.int v :: .int ix :: .ref (x 12 4) :: st) :=
  pg_zast hC hdg j (ok_mem hok (by decide)) (ok_Xb hok) hix hj (by decide) hx (kk _ (og_u (okp_X4 hok)))
end PVT
end
section
def pv_R (L : List Nat) (f : Nat → va_E) (v : Int32) : Int32 → List Nat × (Nat → va_E) → Prop := fun r u => r = v ∧ u = (L, f)
def pv_Wi (κ : pv_Kt) (x : Nat → Nat → Nat) (L : List Nat) (Z : Nat → Nat → Nat → Int32) (v : Int32) : Int32 → List Nat × (Nat → va_E) → Prop := fun r u => r = v ∧ u.1 = L ∧ pv_ok κ x L u.2 Z
def pv_Wv (κ : pv_Kt) (x : Nat → Nat → Nat) (L : List Nat) (Z : Nat → Nat → Nat → Int32) : List Nat × (Nat → va_E) → Prop := fun u => u.1 = L ∧ pv_ok κ x L u.2 Z
def pv_Ei (κ : pv_Kt) (x : Nat → Nat → Nat) (L : List Nat) (Φ : Int32 → (Nat → Nat → Nat → Int32) → Prop) : Int32 → List Nat × (Nat → va_E) → Prop := fun r u => u.1 = L ∧ ∃ Z, pv_ok κ x L u.2 Z ∧ Φ r Z
def pv_Ev (κ : pv_Kt) (x : Nat → Nat → Nat) (L : List Nat) (Φ : (Nat → Nat → Nat → Int32) → Prop) : List Nat × (Nat → va_E) → Prop := fun u => u.1 = L ∧ ∃ Z, pv_ok κ x L u.2 Z ∧ Φ Z
theorem ogI {κ : pv_Kt} {x : Nat → Nat → Nat} {L : List Nat} {f : Nat → va_E} {Z : Nat → Nat → Nat → Int32} (hok : pv_ok κ x L f Z) (i : Nat) : pv_ok κ x L f (va_up Z i (Z i)) := by rw [va_up_i]; exact hok
section PVU
variable {κ : pv_Kt} {p : Program} {l : Launch} {e : Env} {R : Room} {s : State} {m : MethodId} {args : Array Value} {below : List Frame} {meth : Method} {c : Code} {Q : State → Prop} {A : Nat → Prop} {nL : Nat} {cells slots : Nat} {L : List Nat} {f : Nat → va_E} {pc : Nat} {vs : List (Nat × Value)} {st : List Value}
variable {y : MethodName} {cc : ByteArray} {Ts : List Cond} {rt : Option FieldType} {x : Nat → Nat → Nat} {Z2 : Nat → Nat → Nat → Int32}
theorem pg_callVRi (hC : pv_C κ p R s m args meth c y cc nL Ts rt A) {y2 : MethodName} {ws2 : List Cond} {rm2 : Room} {bytes : ByteArray} {maxL : Nat} {ret : Option FieldType} {n index ci b : Nat} {C2 : String} {fs : List Value} {r0 : vw_C} {As rest : List Value} {v : Int32} (hdg : decode cc pc = .ok (.invokevirtual index, 3)) (hM : pv_Mi l κ y2 ws2 rm2 L f (.ref b :: As) 0 0 (pv_R L f v)) (cw : CallW R s args y.cls C2 index y2 bytes maxL ret ws2 rm2 0 0 n) (hL : b ∈ L) (hfb : f b = .inr (ci, fs)) (hcl : vwCl[ci]? = some r0) (hr0 : r0.1 = C2) (hn : As.length = n) (hst : st = As.reverse ++ .ref b :: rest) (hWt : (rest.map fun v => v.category).sum ≤ 8) (hc : cells ≤ R.cells) (hs : slots ≤ R.slots) (kk : pv_G κ p l e R s m args below meth c Q A nL cells slots L f (pc + 3) vs (.int v :: rest)) : pv_G κ p l e R s m args below meth c Q A nL cells slots L f pc vs st := pg_callVi hC hdg hM cw hL hfb hcl hr0 hn hst hWt ⟨hc, hs⟩ (fun r u hu => by obtain ⟨rfl, rfl⟩ := hu; exact kk)
theorem pg_callVWi (hC : pv_C κ p R s m args meth c y cc nL Ts rt A) {y2 : MethodName} {ws2 : List Cond} {rm2 : Room} {bytes : ByteArray} {maxL : Nat} {ret : Option FieldType} {n index ci b : Nat} {C2 : String} {fs : List Value} {r0 : vw_C} {As rest : List Value} {v : Int32} (hdg : decode cc pc = .ok (.invokevirtual index, 3)) (hM : pv_Mi l κ y2 ws2 rm2 L f (.ref b :: As) 0 0 (pv_Wi κ x L Z2 v)) (cw : CallW R s args y.cls C2 index y2 bytes maxL ret ws2 rm2 0 0 n) (hL : b ∈ L) (hfb : f b = .inr (ci, fs)) (hcl : vwCl[ci]? = some r0) (hr0 : r0.1 = C2) (hn : As.length = n) (hst : st = As.reverse ++ .ref b :: rest) (hWt : (rest.map fun v => v.category).sum ≤ 8) (hc : cells ≤ R.cells) (hs : slots ≤ R.slots) (kk : ∀ f2 : Nat → va_E, pv_ok κ x L f2 Z2 → pv_G κ p l e R s m args below meth c Q A nL cells slots L f2 (pc + 3) vs (.int v :: rest)) : pv_G κ p l e R s m args below meth c Q A nL cells slots L f pc vs st := pg_callVi hC hdg hM cw hL hfb hcl hr0 hn hst hWt ⟨hc, hs⟩ (fun r u hu => by obtain ⟨L2, f2⟩ := u; obtain ⟨rfl, h1, h2⟩ := hu; have h1 : L2 = L := h1; subst h1; exact kk f2 h2)
theorem pg_callVWv (hC : pv_C κ p R s m args meth c y cc nL Ts rt A) {y2 : MethodName} {ws2 : List Cond} {rm2 : Room} {bytes : ByteArray} {maxL : Nat} {ret : Option FieldType} {n index ci b : Nat} {C2 : String} {fs : List Value} {r0 : vw_C} {As rest : List Value} (hdg : decode cc pc = .ok (.invokevirtual index, 3)) (hM : pv_Mv l κ y2 ws2 rm2 L f (.ref b :: As) 0 0 (pv_Wv κ x L Z2)) (cw : CallW R s args y.cls C2 index y2 bytes maxL ret ws2 rm2 0 0 n) (hL : b ∈ L) (hfb : f b = .inr (ci, fs)) (hcl : vwCl[ci]? = some r0) (hr0 : r0.1 = C2) (hn : As.length = n) (hst : st = As.reverse ++ .ref b :: rest) (hWt : (rest.map fun v => v.category).sum ≤ 8) (hc : cells ≤ R.cells) (hs : slots ≤ R.slots) (kk : ∀ f2 : Nat → va_E, pv_ok κ x L f2 Z2 → pv_G κ p l e R s m args below meth c Q A nL cells slots L f2 (pc + 3) vs rest) : pv_G κ p l e R s m args below meth c Q A nL cells slots L f pc vs st := pg_callVv hC hdg hM cw hL hfb hcl hr0 hn hst hWt ⟨hc, hs⟩ (fun u hu => by obtain ⟨L2, f2⟩ := u; obtain ⟨h1, h2⟩ := hu; have h1 : L2 = L := h1; subst h1; exact kk f2 h2)
theorem pg_callVEi (hC : pv_C κ p R s m args meth c y cc nL Ts rt A) {y2 : MethodName} {ws2 : List Cond} {rm2 : Room} {bytes : ByteArray} {maxL : Nat} {ret : Option FieldType} {n index ci b : Nat} {C2 : String} {fs : List Value} {r0 : vw_C} {As rest : List Value} {Φ : Int32 → (Nat → Nat → Nat → Int32) → Prop} (hdg : decode cc pc = .ok (.invokevirtual index, 3)) (hM : pv_Mi l κ y2 ws2 rm2 L f (.ref b :: As) 0 0 (pv_Ei κ x L Φ)) (cw : CallW R s args y.cls C2 index y2 bytes maxL ret ws2 rm2 0 0 n) (hL : b ∈ L) (hfb : f b = .inr (ci, fs)) (hcl : vwCl[ci]? = some r0) (hr0 : r0.1 = C2) (hn : As.length = n) (hst : st = As.reverse ++ .ref b :: rest) (hWt : (rest.map fun v => v.category).sum ≤ 8) (hc : cells ≤ R.cells) (hs : slots ≤ R.slots) (kk : ∀ (r : Int32) (f2 : Nat → va_E) (Z3 : Nat → Nat → Nat → Int32), pv_ok κ x L f2 Z3 → Φ r Z3 → pv_G κ p l e R s m args below meth c Q A nL cells slots L f2 (pc + 3) vs (.int r :: rest)) : pv_G κ p l e R s m args below meth c Q A nL cells slots L f pc vs st := pg_callVi hC hdg hM cw hL hfb hcl hr0 hn hst hWt ⟨hc, hs⟩ (fun r u hu => by obtain ⟨L2, f2⟩ := u; obtain ⟨h1, Z3, h2, h3⟩ := hu; have h1 : L2 = L := h1; subst h1; exact kk r f2 Z3 h2 h3)
theorem pg_callVEv (hC : pv_C κ p R s m args meth c y cc nL Ts rt A) {y2 : MethodName} {ws2 : List Cond} {rm2 : Room} {bytes : ByteArray} {maxL : Nat} {ret : Option FieldType} {n index ci b : Nat} {C2 : String} {fs : List Value} {r0 : vw_C} {As rest : List Value} {Φ : (Nat → Nat → Nat → Int32) → Prop} (hdg : decode cc pc = .ok (.invokevirtual index, 3)) (hM : pv_Mv l κ y2 ws2 rm2 L f (.ref b :: As) 0 0 (pv_Ev κ x L Φ)) (cw : CallW R s args y.cls C2 index y2 bytes maxL ret ws2 rm2 0 0 n) (hL : b ∈ L) (hfb : f b = .inr (ci, fs)) (hcl : vwCl[ci]? = some r0) (hr0 : r0.1 = C2) (hn : As.length = n) (hst : st = As.reverse ++ .ref b :: rest) (hWt : (rest.map fun v => v.category).sum ≤ 8) (hc : cells ≤ R.cells) (hs : slots ≤ R.slots) (kk : ∀ (f2 : Nat → va_E) (Z3 : Nat → Nat → Nat → Int32), pv_ok κ x L f2 Z3 → Φ Z3 → pv_G κ p l e R s m args below meth c Q A nL cells slots L f2 (pc + 3) vs rest) : pv_G κ p l e R s m args below meth c Q A nL cells slots L f pc vs st := pg_callVv hC hdg hM cw hL hfb hcl hr0 hn hst hWt ⟨hc, hs⟩ (fun u hu => by obtain ⟨L2, f2⟩ := u; obtain ⟨h1, Z3, h2, h3⟩ := hu; have h1 : L2 = L := h1; subst h1; exact kk f2 Z3 h2 h3)
theorem pg_callSRi (hC : pv_C κ p R s m args meth c y cc nL Ts rt A) {y2 : MethodName} {ws2 : List Cond} {rm2 : Room} {bytes : ByteArray} {maxL : Nat} {ret : Option FieldType} {n index : Nat} {As rest : List Value} {v : Int32} (hdg : decode cc pc = .ok (.invokestatic index, 3)) (hM : pv_Mi l κ y2 ws2 rm2 L f As 0 0 (pv_R L f v)) (cw : CallB R s args y.cls index y2 bytes maxL ret ws2 rm2 0 0 n ∧ (Cond.static y2).before args s = true) (hn : As.length = n) (hst : st = As.reverse ++ rest) (hWt : (rest.map fun v => v.category).sum ≤ 8) (hc : cells ≤ R.cells) (hs : slots ≤ R.slots) (kk : pv_G κ p l e R s m args below meth c Q A nL cells slots L f (pc + 3) vs (.int v :: rest)) : pv_G κ p l e R s m args below meth c Q A nL cells slots L f pc vs st := pg_callSi hC hdg hM cw hn hst hWt ⟨hc, hs⟩ (fun r u hu => by obtain ⟨rfl, rfl⟩ := hu; exact kk)
theorem pg_callSWi (hC : pv_C κ p R s m args meth c y cc nL Ts rt A) {y2 : MethodName} {ws2 : List Cond} {rm2 : Room} {bytes : ByteArray} {maxL : Nat} {ret : Option FieldType} {n index : Nat} {As rest : List Value} {v : Int32} (hdg : decode cc pc = .ok (.invokestatic index, 3)) (hM : pv_Mi l κ y2 ws2 rm2 L f As 0 0 (pv_Wi κ x L Z2 v)) (cw : CallB R s args y.cls index y2 bytes maxL ret ws2 rm2 0 0 n ∧ (Cond.static y2).before args s = true) (hn : As.length = n) (hst : st = As.reverse ++ rest) (hWt : (rest.map fun v => v.category).sum ≤ 8) (hc : cells ≤ R.cells) (hs : slots ≤ R.slots) (kk : ∀ f2 : Nat → va_E, pv_ok κ x L f2 Z2 → pv_G κ p l e R s m args below meth c Q A nL cells slots L f2 (pc + 3) vs (.int v :: rest)) : pv_G κ p l e R s m args below meth c Q A nL cells slots L f pc vs st := pg_callSi hC hdg hM cw hn hst hWt ⟨hc, hs⟩ (fun r u hu => by obtain ⟨L2, f2⟩ := u; obtain ⟨rfl, h1, h2⟩ := hu; have h1 : L2 = L := h1; subst h1; exact kk f2 h2)
theorem pg_callSWv (hC : pv_C κ p R s m args meth c y cc nL Ts rt A) {y2 : MethodName} {ws2 : List Cond} {rm2 : Room} {bytes : ByteArray} {maxL : Nat} {ret : Option FieldType} {n index : Nat} {As rest : List Value} (hdg : decode cc pc = .ok (.invokestatic index, 3)) (hM : pv_Mv l κ y2 ws2 rm2 L f As 0 0 (pv_Wv κ x L Z2)) (cw : CallB R s args y.cls index y2 bytes maxL ret ws2 rm2 0 0 n ∧ (Cond.static y2).before args s = true) (hn : As.length = n) (hst : st = As.reverse ++ rest) (hWt : (rest.map fun v => v.category).sum ≤ 8) (hc : cells ≤ R.cells) (hs : slots ≤ R.slots) (kk : ∀ f2 : Nat → va_E, pv_ok κ x L f2 Z2 → pv_G κ p l e R s m args below meth c Q A nL cells slots L f2 (pc + 3) vs rest) : pv_G κ p l e R s m args below meth c Q A nL cells slots L f pc vs st := pg_callSv hC hdg hM cw hn hst hWt ⟨hc, hs⟩ (fun u hu => by obtain ⟨L2, f2⟩ := u; obtain ⟨h1, h2⟩ := hu; have h1 : L2 = L := h1; subst h1; exact kk f2 h2)
theorem pg_callSEi (hC : pv_C κ p R s m args meth c y cc nL Ts rt A) {y2 : MethodName} {ws2 : List Cond} {rm2 : Room} {bytes : ByteArray} {maxL : Nat} {ret : Option FieldType} {n index : Nat} {As rest : List Value} {Φ : Int32 → (Nat → Nat → Nat → Int32) → Prop} (hdg : decode cc pc = .ok (.invokestatic index, 3)) (hM : pv_Mi l κ y2 ws2 rm2 L f As 0 0 (pv_Ei κ x L Φ)) (cw : CallB R s args y.cls index y2 bytes maxL ret ws2 rm2 0 0 n ∧ (Cond.static y2).before args s = true) (hn : As.length = n) (hst : st = As.reverse ++ rest) (hWt : (rest.map fun v => v.category).sum ≤ 8) (hc : cells ≤ R.cells) (hs : slots ≤ R.slots) (kk : ∀ (r : Int32) (f2 : Nat → va_E) (Z3 : Nat → Nat → Nat → Int32), pv_ok κ x L f2 Z3 → Φ r Z3 → pv_G κ p l e R s m args below meth c Q A nL cells slots L f2 (pc + 3) vs (.int r :: rest)) : pv_G κ p l e R s m args below meth c Q A nL cells slots L f pc vs st := pg_callSi hC hdg hM cw hn hst hWt ⟨hc, hs⟩ (fun r u hu => by obtain ⟨L2, f2⟩ := u; obtain ⟨h1, Z3, h2, h3⟩ := hu; have h1 : L2 = L := h1; subst h1; exact kk r f2 Z3 h2 h3)
theorem pg_callSEv (hC : pv_C κ p R s m args meth c y cc nL Ts rt A) {y2 : MethodName} {ws2 : List Cond} {rm2 : Room} {bytes : ByteArray} {maxL : Nat} {ret : Option FieldType} {n index : Nat} {As rest : List Value} {Φ : (Nat → Nat → Nat → Int32) → Prop} (hdg : decode cc pc = .ok (.invokestatic index, 3)) (hM : pv_Mv l κ y2 ws2 rm2 L f As 0 0 (pv_Ev κ x L Φ)) (cw : CallB R s args y.cls index y2 bytes maxL ret ws2 rm2 0 0 n ∧ (Cond.static y2).before args s = true) (hn : As.length = n) (hst : st = As.reverse ++ rest) (hWt : (rest.map fun v => v.category).sum ≤ 8) (hc : cells ≤ R.cells) (hs : slots ≤ R.slots) (kk : ∀ (f2 : Nat → va_E) (Z3 : Nat → Nat → Nat → Int32), pv_ok κ x L f2 Z3 → Φ Z3 → pv_G κ p l e R s m args below meth c Q A nL cells slots L f2 (pc + 3) vs rest) : pv_G κ p l e R s m args below meth c Q A nL cells slots L f pc vs st := pg_callSv hC hdg hM cw hn hst hWt ⟨hc, hs⟩ (fun u hu => by obtain ⟨L2, f2⟩ := u; obtain ⟨h1, Z3, h2, h3⟩ := hu; have h1 : L2 = L := h1; subst h1; exact kk f2 Z3 h2 h3)
theorem pg_callSNRi (hC : pv_C κ p R s m args meth c y cc nL Ts rt A) {y2 : MethodName} {ws2 : List Cond} {rm2 : Room} {bytes : ByteArray} {maxL : Nat} {ret : Option FieldType} {n index : Nat} {host : String} {As rest : List Value} {v : Int32} (hdg : decode cc pc = .ok (.invokestatic index, 3)) (hM : pv_Mi l κ y2 ws2 rm2 L f As 0 0 (pv_R L f v)) (cw : va_CN R s args y.cls index y2 host bytes maxL ret ws2 rm2 0 0 n ∧ (Cond.static y2).before args s = true ∧ True) (hn : As.length = n) (hst : st = As.reverse ++ rest) (hWt : (rest.map fun v => v.category).sum ≤ 8) (hc : cells ≤ R.cells) (hs : slots ≤ R.slots) (kk : pv_G κ p l e R s m args below meth c Q A nL cells slots L f (pc + 3) vs (.int v :: rest)) : pv_G κ p l e R s m args below meth c Q A nL cells slots L f pc vs st := pg_callSNi hC hdg hM cw hn hst hWt ⟨hc, hs⟩ (fun r u hu => by obtain ⟨rfl, rfl⟩ := hu; exact kk)
theorem pg_callSNWi (hC : pv_C κ p R s m args meth c y cc nL Ts rt A) {y2 : MethodName} {ws2 : List Cond} {rm2 : Room} {bytes : ByteArray} {maxL : Nat} {ret : Option FieldType} {n index : Nat} {host : String} {As rest : List Value} {v : Int32} (hdg : decode cc pc = .ok (.invokestatic index, 3)) (hM : pv_Mi l κ y2 ws2 rm2 L f As 0 0 (pv_Wi κ x L Z2 v)) (cw : va_CN R s args y.cls index y2 host bytes maxL ret ws2 rm2 0 0 n ∧ (Cond.static y2).before args s = true ∧ True) (hn : As.length = n) (hst : st = As.reverse ++ rest) (hWt : (rest.map fun v => v.category).sum ≤ 8) (hc : cells ≤ R.cells) (hs : slots ≤ R.slots) (kk : ∀ f2 : Nat → va_E, pv_ok κ x L f2 Z2 → pv_G κ p l e R s m args below meth c Q A nL cells slots L f2 (pc + 3) vs (.int v :: rest)) : pv_G κ p l e R s m args below meth c Q A nL cells slots L f pc vs st := pg_callSNi hC hdg hM cw hn hst hWt ⟨hc, hs⟩ (fun r u hu => by obtain ⟨L2, f2⟩ := u; obtain ⟨rfl, h1, h2⟩ := hu; have h1 : L2 = L := h1; subst h1; exact kk f2 h2)
theorem pg_callSNWv (hC : pv_C κ p R s m args meth c y cc nL Ts rt A) {y2 : MethodName} {ws2 : List Cond} {rm2 : Room} {bytes : ByteArray} {maxL : Nat} {ret : Option FieldType} {n index : Nat} {host : String} {As rest : List Value} (hdg : decode cc pc = .ok (.invokestatic index, 3)) (hM : pv_Mv l κ y2 ws2 rm2 L f As 0 0 (pv_Wv κ x L Z2)) (cw : va_CN R s args y.cls index y2 host bytes maxL ret ws2 rm2 0 0 n ∧ (Cond.static y2).before args s = true ∧ True) (hn : As.length = n) (hst : st = As.reverse ++ rest) (hWt : (rest.map fun v => v.category).sum ≤ 8) (hc : cells ≤ R.cells) (hs : slots ≤ R.slots) (kk : ∀ f2 : Nat → va_E, pv_ok κ x L f2 Z2 → pv_G κ p l e R s m args below meth c Q A nL cells slots L f2 (pc + 3) vs rest) : pv_G κ p l e R s m args below meth c Q A nL cells slots L f pc vs st := pg_callSNv hC hdg hM cw hn hst hWt ⟨hc, hs⟩ (fun u hu => by obtain ⟨L2, f2⟩ := u; obtain ⟨h1, h2⟩ := hu; have h1 : L2 = L := h1; subst h1; exact kk f2 h2)
theorem pg_callSNEi (hC : pv_C κ p R s m args meth c y cc nL Ts rt A) {y2 : MethodName} {ws2 : List Cond} {rm2 : Room} {bytes : ByteArray} {maxL : Nat} {ret : Option FieldType} {n index : Nat} {host : String} {As rest : List Value} {Φ : Int32 → (Nat → Nat → Nat → Int32) → Prop} (hdg : decode cc pc = .ok (.invokestatic index, 3)) (hM : pv_Mi l κ y2 ws2 rm2 L f As 0 0 (pv_Ei κ x L Φ)) (cw : va_CN R s args y.cls index y2 host bytes maxL ret ws2 rm2 0 0 n ∧ (Cond.static y2).before args s = true ∧ True) (hn : As.length = n) (hst : st = As.reverse ++ rest) (hWt : (rest.map fun v => v.category).sum ≤ 8) (hc : cells ≤ R.cells) (hs : slots ≤ R.slots) (kk : ∀ (r : Int32) (f2 : Nat → va_E) (Z3 : Nat → Nat → Nat → Int32), pv_ok κ x L f2 Z3 → Φ r Z3 → pv_G κ p l e R s m args below meth c Q A nL cells slots L f2 (pc + 3) vs (.int r :: rest)) : pv_G κ p l e R s m args below meth c Q A nL cells slots L f pc vs st := pg_callSNi hC hdg hM cw hn hst hWt ⟨hc, hs⟩ (fun r u hu => by obtain ⟨L2, f2⟩ := u; obtain ⟨h1, Z3, h2, h3⟩ := hu; have h1 : L2 = L := h1; subst h1; exact kk r f2 Z3 h2 h3)
theorem pg_callSNEv (hC : pv_C κ p R s m args meth c y cc nL Ts rt A) {y2 : MethodName} {ws2 : List Cond} {rm2 : Room} {bytes : ByteArray} {maxL : Nat} {ret : Option FieldType} {n index : Nat} {host : String} {As rest : List Value} {Φ : (Nat → Nat → Nat → Int32) → Prop} (hdg : decode cc pc = .ok (.invokestatic index, 3)) (hM : pv_Mv l κ y2 ws2 rm2 L f As 0 0 (pv_Ev κ x L Φ)) (cw : va_CN R s args y.cls index y2 host bytes maxL ret ws2 rm2 0 0 n ∧ (Cond.static y2).before args s = true ∧ True) (hn : As.length = n) (hst : st = As.reverse ++ rest) (hWt : (rest.map fun v => v.category).sum ≤ 8) (hc : cells ≤ R.cells) (hs : slots ≤ R.slots) (kk : ∀ (f2 : Nat → va_E) (Z3 : Nat → Nat → Nat → Int32), pv_ok κ x L f2 Z3 → Φ Z3 → pv_G κ p l e R s m args below meth c Q A nL cells slots L f2 (pc + 3) vs rest) : pv_G κ p l e R s m args below meth c Q A nL cells slots L f pc vs st := pg_callSNv hC hdg hM cw hn hst hWt ⟨hc, hs⟩ (fun u hu => by obtain ⟨L2, f2⟩ := u; obtain ⟨h1, Z3, h2, h3⟩ := hu; have h1 : L2 = L := h1; subst h1; exact kk f2 Z3 h2 h3)
end PVU
end
section
section PVL
variable {κ : pv_Kt} {p : Program} {l : Launch} {e : Env} {R : Room} {s : State} {m : MethodId} {args : Array Value} {below : List Frame} {meth : Method} {c : Code} {Q : State → Prop} {A : Nat → Prop} {nL : Nat} {cells slots : Nat} {L : List Nat} {pc : Nat}
/-- a loop: a state that falls -/
theorem pg_loop {σ : Type} (I : σ → Prop) (μ : σ → Nat) (VS : σ → List (Nat × Value)) (FF : σ → Nat → va_E) (step : ∀ q, I q → (∀ q2, I q2 → μ q2 < μ q → pv_G κ p l e R s m args below meth c Q A nL cells slots L (FF q2) pc (VS q2) []) → pv_G κ p l e R s m args below meth c Q A nL cells slots L (FF q) pc (VS q) []) (q0 : σ) (h0 : I q0) : pv_G κ p l e R s m args below meth c Q A nL cells slots L (FF q0) pc (VS q0) [] := by
  have key : ∀ (n : Nat) (q : σ), μ q < n → I q → pv_G κ p l e R s m args below meth c Q A nL cells slots L (FF q) pc (VS q) [] := by
    intro n
    induction n with
    | zero => intro q h; omega
    | succ n ih => exact fun q h hI => step q hI (fun q2 h2 hm => ih q2 (by omega) h2)
  exact key (μ q0 + 1) q0 (Nat.lt_succ_self _) h0
end PVL
theorem tab_cases (x : Int32) (lo n : Nat) (hn : n < 2 ^ 30) : (∃ j : Nat, lo ≤ j ∧ j ≤ n ∧ x = nI j) ∨ (x.toInt < (lo : Int) ∨ (n : Int) < x.toInt) := by
  by_cases h0 : x.toInt < (lo : Int)
  · exact Or.inr (Or.inl h0)
  · by_cases h1 : (n : Int) < x.toInt
    · exact Or.inr (Or.inr h1)
    · obtain ⟨j, hj, rfl⟩ := vp_in_of (x := x) (n := n + 1) (vp_in_iff.mpr ⟨by omega, by omega⟩) (by omega)
      rw [nI_toInt (by omega)] at h0
      exact Or.inl ⟨j, by omega, by omega, rfl⟩
section PVL2
variable {κ : pv_Kt} {p : Program} {l : Launch} {e : Env} {R : Room} {s : State} {m : MethodId} {args : Array Value} {below : List Frame} {meth : Method} {c : Code} {Q : State → Prop} {A : Nat → Prop} {nL : Nat} {cells slots : Nat} {L : List Nat} {f : Nat → va_E} {pc : Nat} {vs vs' : List (Nat × Value)} {st : List Value}
theorem pg_vs (h : vs = vs') (kk : pv_G κ p l e R s m args below meth c Q A nL cells slots L f pc vs' st) : pv_G κ p l e R s m args below meth c Q A nL cells slots L f pc vs st := h ▸ kk
end PVL2
end
section
section PVCP
variable {κ : pv_Kt} {p : Program} {l : Launch} {e : Env} {R : Room} {s : State} {m : MethodId} {args : Array Value} {below : List Frame} {meth : Method} {c : Code} {Q : State → Prop} {A : Nat → Prop} {nL : Nat} {cells slots : Nat} {L : List Nat} {f : Nat → va_E} {pc : Nat} {vs : List (Nat × Value)} {st : List Value}
variable {y : MethodName} {cc : ByteArray} {Ts : List Cond} {rt : Option FieldType}
/-- a row of ints is copied into another of the pool -/
theorem pg_copyi (hC : pv_C κ p R s m args meth c y cc nL Ts rt A) {index a0 a n0 n1 : Nat} {r0 r1 : Nat → Int32} (hdg : decode cc pc = .ok (.invokestatic index, 3)) (h1 : Cond.methodLink y.cls index arraycopyName ∈ Ts) (h2 : Cond.native arraycopyName ∈ Ts) (h3 : Cond.static arraycopyName ∈ Ts) (h4 : Cond.initialized "java/lang/System" ∈ Ts) (hL0 : a0 ∈ L) (hf0 : f a0 = .inl (κ.2.1 1, n0, .inl r0)) (hL1 : a ∈ L) (hf1 : f a = .inl (κ.2.1 1, n1, .inl r1)) (n : Nat) (hn0 : n ≤ n0) (hn1 : n ≤ n1) (hnb : n < 2 ^ 31) (hfr : 1 ≤ R.frames) (hlo : (st.map fun v => v.category).sum + (nativeFrameWords "java/lang/System" "arraycopy" 5 + 11) ≤ R.locals) (kk : pv_G κ p l e R s m args below meth c Q A nL cells slots L (va_up f a (.inl (κ.2.1 1, n1, .inl (va_cpy r0 r1 0 0 n)))) (pc + 3) vs st) : pv_G κ p l e R s m args below meth c Q A nL cells slots L f pc vs (.int (nI n) :: .int 0 :: .ref a :: .int 0 :: .ref a0 :: st) := fun H locs ls hP hD hS h => by
  obtain ⟨q0, hq0⟩ := pv_at (D := κ.1) (H := H) hL0 hf0
  obtain ⟨q1, hq1⟩ := pv_at (D := κ.1) (H := H) hL1 hf1
  have e1 : (nI n).toNatClampNeg = n := nI_clamp hnb
  have e0 : (0 : Int32).toNatClampNeg = 0 := rfl
  refine va_copyi hC.1 hC.2.1 (hC.2.2.1.trans h.1.symm) hC.2.2.2.1 (hC.2.2.2.2.1 _ h1) (hC.2.2.2.2.1 _ h2) (hC.2.2.2.2.1 _ h3) (hC.2.2.2.2.1 _ h4) hC.2.2.2.2.2.2.2.1 hP hD hS q0 q1 1 1 hq0 hq1 rfl rfl rfl (by decide) (by decide) (nI_pos hnb) (by rw [e1, e0]; omega) (by rw [e1, e0]; omega) (fun _ _ => rfl) hfr hlo hdg (fun H1 locs1 hP1 hD1 hS1 => ?_)
  rw [pv_set hD hL1 hf1 hq1, e1, e0] at hP1 hD1
  exact kk H1 locs1 ls hP1 hD1 hS1 h
theorem pg_callSNx (hC : pv_C κ p R s m args meth c y cc nL Ts rt A) {y2 : MethodName} {ws2 : List Cond} {rm2 : Room} {bytes : ByteArray} {maxL : Nat} {ret : Option FieldType} {n index : Nat} {host : String} {As rest : List Value} {g : Nat → va_E} (hdg : decode cc pc = .ok (.invokestatic index, 3)) (hM : pv_Mv l κ y2 ws2 rm2 L f As 0 0 (fun u => u = (L, g))) (cw : va_CN R s args y.cls index y2 host bytes maxL ret ws2 rm2 0 0 n ∧ (Cond.static y2).before args s = true ∧ True) (hn : As.length = n) (hst : st = As.reverse ++ rest) (hWt : (rest.map fun v => v.category).sum ≤ 8) (hc : cells ≤ R.cells) (hs : slots ≤ R.slots) (kk : pv_G κ p l e R s m args below meth c Q A nL cells slots L g (pc + 3) vs rest) : pv_G κ p l e R s m args below meth c Q A nL cells slots L f pc vs st := pg_callSNv hC hdg hM cw hn hst hWt ⟨hc, hs⟩ (fun u hu => by subst hu; exact kk)
end PVCP
abbrev rmX4_copy : Room := { frames := 1, cells := 0, slots := 0, locals := 40 }
set_option maxHeartbeats 2000000 in
set_option maxRecDepth 20000 in
theorem cX4_copy_c (l : Launch) {κ : pv_Kt} {L : List Nat} {f : Nat → va_E} {a0 a n : Nat} {r0 r1 : Nat → Int32} (hn : n < 2 ^ 31) (hL0 : a0 ∈ L) (hf0 : f a0 = .inl (κ.2.1 1, n, .inl r0)) (hL1 : a ∈ L) (hf1 : f a = .inl (κ.2.1 1, n, .inl r1)) : pv_Mv l κ yX4_copy wsX4_copy rmX4_copy L f [.ref a0, .ref a] 0 0 (fun u => u = (L, va_up f a (.inl (κ.2.1 1, n, .inl (va_cpy r0 r1 0 0 n))))) := by
  refine pv_startV (cc := cX4_copy) (maxL := 2) (ret := none) (by decide) rfl (Nat.le_of_ble_eq_true rfl) (fun A0 P0 E0 S0 M0 a9 B0 T0 C0 hC => ?_)
  refine pg_sub (vs' := [(0, .ref a0), (1, .ref a)]) [0, 1] rfl ?_
  refine pg_aload_n (pc := 0) hC dX4_copy_0 0 rfl rfl ?_
  refine pg_iconst (pc := 1) (v := 0) hC dX4_copy_1 (by decide) ?_
  refine pg_aload_n (pc := 2) hC dX4_copy_2 1 rfl rfl ?_
  refine pg_iconst (pc := 3) (v := 0) hC dX4_copy_3 (by decide) ?_
  refine pg_aload_n (pc := 4) hC dX4_copy_4 0 rfl rfl ?_
  refine pg_alen (pc := 5) (v := nI n) hC dX4_copy_5 1 rfl hL0 hf0 rfl ?_
  refine pg_aload_n (pc := 6) hC dX4_copy_6 1 rfl rfl ?_
  refine pg_alen (pc := 7) (v := nI n) hC dX4_copy_7 1 rfl hL1 hf1 rfl ?_
  refine pg_mmin (pc := 8) hC dX4_copy_8 (List.mem_of_getElem? (i := 1) rfl) (List.mem_of_getElem? (i := 2) rfl) (List.mem_of_getElem? (i := 3) rfl) (List.mem_of_getElem? (i := 4) rfl) (Nat.le_of_ble_eq_true rfl) (Nat.le_of_ble_eq_true rfl) (Nat.zero_le _) (Nat.zero_le _) ?_
  refine pg_top (pc := 11) (x' := nI n) (ite_self _) ?_
  refine pg_copyi (pc := 11) hC dX4_copy_11 (List.mem_of_getElem? (i := 5) rfl) (List.mem_of_getElem? (i := 6) rfl) (List.mem_of_getElem? (i := 7) rfl) (List.mem_of_getElem? (i := 8) rfl) hL0 hf0 hL1 hf1 n (Nat.le_refl _) (Nat.le_refl _) hn (Nat.le_of_ble_eq_true rfl) (Nat.le_of_ble_eq_true rfl) ?_
  exact pg_vret (pc := 14) hC dX4_copy_14 rfl rfl
def zc (z : Nat → Nat → Int32) (k : Nat) (row : Nat → Int32) : Nat → Nat → Int32 := va_up z k row
section PVCQ
variable {κ : pv_Kt} {p : Program} {l : Launch} {e : Env} {R : Room} {s : State} {m : MethodId} {args : Array Value} {below : List Frame} {meth : Method} {c : Code} {Q : State → Prop} {A : Nat → Prop} {nL : Nat} {cells slots : Nat} {L : List Nat} {f : Nat → va_E} {pc : Nat} {vs : List (Nat × Value)} {st : List Value}
variable {y : MethodName} {cc : ByteArray} {Ts : List Cond} {rt : Option FieldType} {x : Nat → Nat → Nat} {Z : Nat → Nat → Nat → Int32} {z : Nat → Nat → Int32} {i j : Nat}
/-- a row of one school into another's -/
theorem pgS_copy (hC : pv_C κ p R s m args meth c y cc nL Ts rt A) {index : Nat} {host : String} (hdg : decode cc pc = .ok (.invokestatic index, 3)) (k : Nat) {n : Nat} {r1 : Nat → Int32} (hok : pv_ok κ x L f (va_up Z i z)) (hi : i < 9) (hj : j < 9) (hji : j ≠ i) (hk : k < 14) (h1 : k ≠ 1) (hn : pv_sl k = n) (hr1 : z k = r1) (cw : va_CN R s args y.cls index yX4_copy host cX4_copy 2 none wsX4_copy rmX4_copy 0 0 2 ∧ (Cond.static yX4_copy).before args s = true ∧ True) (hWt : (st.map fun v => v.category).sum ≤ 8) (hc : cells ≤ R.cells) (hs : slots ≤ R.slots) (kk : ∀ f2 : Nat → va_E, pv_ok κ x L f2 (va_up Z i (zc z k (va_cpy (Z j k) r1 0 0 n))) → pv_G κ p l e R s m args below meth c Q A nL cells slots L f2 (pc + 3) vs st) : pv_G κ p l e R s m args below meth c Q A nL cells slots L f pc vs (.ref (x i k) :: .ref (x j k) :: st) := by
  subst hn; subst hr1
  have hj2 : f (x j k) = .inl (κ.2.1 1, pv_sl k, .inl (Z j k)) := by
    have h := ok_Sa hok hj k hk h1
    rw [va_up_ne _ _ hji] at h
    exact h
  exact pg_callSNx (As := [.ref (x j k), .ref (x i k)]) hC hdg (cX4_copy_c l (Nat.lt_of_le_of_lt (pv_sl_le k) (by decide)) (ok_Sm hok hj k hk) hj2 (ok_Sm hok hi k hk) (og_Sa hok hi k hk h1)) cw rfl rfl hWt hc hs (kk _ (og_u (okp_Sa hok hi hk h1 rfl)))
end PVCQ
end
section
/-! ===== what is made anew: the pool grows ===== -/
section PVNW
variable {κ : pv_Kt} {p : Program} {l : Launch} {e : Env} {R : Room} {s : State} {m : MethodId} {args : Array Value} {below : List Frame} {meth : Method} {c : Code} {Q : State → Prop} {A : Nat → Prop} {nL : Nat} {cells slots : Nat} {L : List Nat} {f : Nat → va_E} {pc : Nat} {vs : List (Nat × Value)} {st : List Value}
variable {y : MethodName} {cc : ByteArray} {Ts : List Cond} {rt : Option FieldType}
theorem pg_new (hC : pv_C κ p R s m args meth c y cc nL Ts rt A) {C2 : String} {T : u_T} {N ci index : Nat} (hdg : decode cc pc = .ok (.new index, 3)) (hin : ∀ w ∈ u_ws C2 T N, w ∈ Ts) (ty0 : Nat → FieldType) (hty : ∀ k, k < N → parseFieldDescriptor (T k).2.2.1 = some (ty0 k)) (hcl : vwCl[ci]? = some (C2, T, N)) (h1 : Cond.classLink y.cls index C2 ∈ Ts) (h2 : Cond.instantiable C2 N ∈ Ts) (h3 : Cond.initialized C2 ∈ Ts) {fs : List Value} (hfs : ∀ j, j < N → defaultValue (ty0 j) = vp_V fs j) (hcs : cells + 1 ≤ R.cells ∧ slots + N ≤ R.slots) (kk : ∀ q : Nat, q ∉ L → pv_G κ p l e R s m args below meth c Q A nL (cells + 1) (slots + N) (L ++ [q]) (va_up f q (.inr (ci, fs))) (pc + 3) vs (.ref q :: st)) : pv_G κ p l e R s m args below meth c Q A nL cells slots L f pc vs st := fun H locs ls hP hD hS h => by
  refine va_new hC.1 hC.2.1 hC.2.2.2.2.1 hin ty0 hty hC.2.2.2.1 (hC.2.2.2.2.1 _ h1) (hC.2.2.2.2.1 _ h2) (hC.2.2.2.2.1 _ h3) hC.2.2.2.2.2.2.2.1 hP hD hS hC.2.2.2.2.2.2.2.2.1 hcl hfs hcs.1 hcs.2 hdg (fun q H1 hP1 hD1 hS1 => ?_)
  have hq : q ∉ L := va_pl_fresh2 (X := []) hD1
  rw [va_pl_push hq] at hP1 hD1
  exact kk q hq H1 locs ls hP1 hD1 hS1 h
theorem pg_newa (hC : pv_C κ p R s m args meth c y cc nL Ts rt A) {atype : ArrayType} {N : Nat} {n : Int32} (hdg : decode cc pc = .ok (.newarray atype, 2)) (k0 : Nat) {ty : FieldType} (hk : (pv_tys κ)[k0]? = some (κ.2.1 k0, ty)) (hty : newarray.typeOf atype = ty) (hTy : ty = .char ∨ ty = .int ∨ ty = .boolean) (h1 : Cond.arrayClass (newarray.typeOf atype) ∈ Ts) (hn : n = nI N) (hN : N < 2 ^ 20) (hcs : cells + 1 ≤ R.cells ∧ slots + N ≤ R.slots) (kk : ∀ q : Nat, q ∉ L → pv_G κ p l e R s m args below meth c Q A nL (cells + 1) (slots + N) (L ++ [q]) (va_up f q (.inl (κ.2.1 k0, N, .inl (fun _ => 0)))) (pc + 2) vs (.ref q :: st)) : pv_G κ p l e R s m args below meth c Q A nL cells slots L f pc vs (.int n :: st) := fun H locs ls hP hD hS h => by
  subst hn
  have hdef : defaultValue ty = .int 0 := by rcases hTy with q | q | q <;> (rw [q]; rfl)
  have hcb : componentBytes ty ≤ 4 := by rcases hTy with q | q | q <;> (rw [q]; decide)
  refine va_newa hC.1 hC.2.1 (hC.2.2.2.2.1 _ h1) hty hC.2.2.2.2.2.2.2.1 hP hD hS hC.2.2.2.2.2.2.2.2.1 (a0 := (N, .inl (fun _ => 0))) (fun cA => ?_) (nI_pos (by omega)) (nI_clamp (by omega)) (Nat.le_trans (Nat.mul_le_mul_left N hcb) (by omega)) hcs.1 hcs.2 hdg (fun q cA H1 hK1 hP1 hD1 hS1 => ?_)
  · rw [hdef]; rfl
  · have hcA : cA = κ.2.1 k0 := by
      have g1 := (hK1.2 (pv_tys κ).length (cA, ty) (by rw [List.getElem?_append_right (Nat.le_refl _), Nat.sub_self]; rfl)).2
      have g2 := (hC.2.2.2.2.2.2.2.1.2 k0 _ hk).2
      have e1 : s.vm.findClass ("[" ++ ty.toString) = some cA := by rcases hTy with q | q | q <;> (subst q; exact g1)
      have e2 : s.vm.findClass ("[" ++ ty.toString) = some (κ.2.1 k0) := by rcases hTy with q | q | q <;> (subst q; exact g2)
      exact Option.some.inj (e1.symm.trans e2)
    subst hcA
    have hq : q ∉ L := va_pl_fresh2 (X := []) hD1
    rw [va_pl_push hq] at hP1 hD1
    exact kk q hq H1 locs ls hP1 hD1 hS1 h
theorem pg_newq (hC : pv_C κ p R s m args meth c y cc nL Ts rt A) {index N : Nat} {n : Int32} (hdg : decode cc pc = .ok (.anewarray index, 3)) (h1 : Cond.classLink y.cls index "ExcuseTariffs$School" ∈ Ts) (hn : n = nI N) (hN : N < 2 ^ 20) (hcs : cells + 1 ≤ R.cells ∧ slots + N ≤ R.slots) (kk : ∀ q : Nat, q ∉ L → pv_G κ p l e R s m args below meth c Q A nL (cells + 1) (slots + N) (L ++ [q]) (va_up f q (.inl (κ.2.1 3, N, .inr (.inr (.inr (.inr (fun _ => none))))))) (pc + 3) vs (.ref q :: st)) : pv_G κ p l e R s m args below meth c Q A nL cells slots L f pc vs (.int n :: st) := fun H locs ls hP hD hS h => by
  subst hn
  refine va_newq hC.1 hC.2.1 hC.2.2.2.1 (hC.2.2.2.2.1 _ h1) hC.2.2.2.2.2.2.2.2.2.1.2.2 hC.2.2.2.2.2.2.2.1 hP hD hS hC.2.2.2.2.2.2.2.2.1 (nI_pos (by omega)) (nI_clamp (by omega)) (by omega) hcs.1 hcs.2 hdg (fun q cA H1 hK1 hP1 hD1 hS1 => ?_)
  have hcA : cA = κ.2.1 3 := by
    obtain ⟨kA, comp, -, -, -, g1⟩ := (hK1.2 (pv_tys κ).length _ (by rw [List.getElem?_append_right (Nat.le_refl _), Nat.sub_self]; rfl)).2
    obtain ⟨kA2, comp2, -, -, -, g2⟩ := (hC.2.2.2.2.2.2.2.1.2 3 _ rfl).2
    exact Option.some.inj (g1.symm.trans g2)
  subst hcA
  have hq : q ∉ L := va_pl_fresh2 (X := []) hD1
  rw [va_pl_push hq] at hP1 hD1
  exact kk q hq H1 locs ls hP1 hD1 hS1 h
/-- a static table's row into a row of the pool -/
theorem pg_copyt (hC : pv_C κ p R s m args meth c y cc nL Ts rt A) {index t a n0 n1 : Nat} {nm : String} {r0 r1 : Nat → Int32} (hdg : decode cc pc = .ok (.invokestatic index, 3)) (h1 : Cond.methodLink y.cls index arraycopyName ∈ Ts) (h2 : Cond.native arraycopyName ∈ Ts) (h3 : Cond.static arraycopyName ∈ Ts) (h4 : Cond.initialized "java/lang/System" ∈ Ts) (ht : pv_tb nm t r0 A s) (hL1 : a ∈ L) (hf1 : f a = .inl (κ.2.1 1, n1, .inl r1)) (n : Nat) (hn0 : n ≤ 5) (hn1 : n ≤ n1) (hn0' : n0 = n) (hfr : 1 ≤ R.frames) (hlo : (st.map fun v => v.category).sum + (nativeFrameWords "java/lang/System" "arraycopy" 5 + 11) ≤ R.locals) (kk : pv_G κ p l e R s m args below meth c Q A nL cells slots L (va_up f a (.inl (κ.2.1 1, n1, .inl (va_cpy r0 r1 0 0 n)))) (pc + 3) vs st) : pv_G κ p l e R s m args below meth c Q A nL cells slots L f pc vs (.int (nI n0) :: .int 0 :: .ref a :: .int 0 :: .ref t :: st) := fun H locs ls hP hD hS h => by
  subst hn0'
  obtain ⟨q1, hq1⟩ := pv_at (D := κ.1) (H := H) hL1 hf1
  intro T hT X
  obtain ⟨-, scr, s1, ⟨s2, k0, hk0, cm0, hkk0⟩, s3, s4, -, s5, s6⟩ := ht
  have hc0 : H[t]? = some scr := (hS.2.1 t (Array.getElem?_eq_some_iff.mp s1).1 s6).trans s1
  have hc1 : H[a]? = some (vp_cell (κ.2.1 1) (n1, .inl r1)) := hP q1 _ hq1
  obtain ⟨-, k1, hk1, cm1, hkk1⟩ := (hC.2.2.2.2.2.2.2.1.2 1 _ rfl).1 n1 (fun j => .int (r1 j))
  have i0 : (0 : Int32).toInt = 0 := rfl
  have iN : (nI n0).toInt = (n0 : Int) := nI_toInt (by omega)
  have eN : (nI n0).toNatClampNeg = n0 := nI_clamp (by omega)
  have e0 : (0 : Int32).toNatClampNeg = 0 := rfl
  obtain ⟨vm', X', step⟩ := X.arraycopy hC.1 hC.2.2.2.1 (hC.2.2.2.2.1 _ h1) (hC.2.2.2.2.1 _ h2) (hC.2.2.2.2.1 _ h3) (hC.2.2.2.2.1 _ h4) (src := t) (dst := a) (cs := scr) (cd := vp_cell (κ.2.1 1) (n1, .inl r1)) (srcPos := 0) (destPos := 0) (n := nI n0) (by rw [hT]; exact hc0) (by rw [hT]; exact hc1)
    s2 (fun _ q => by cases q) s3 (fun q => by cases q) hk0 hk1 hkk0 hkk1 (by simp [refKind]) (by decide) (by decide) (nI_pos (by omega))
    (by rw [i0, iN]; omega)
    (by rw [i0, iN]; show ¬ _ > ((arrV (κ.2.1 1) n1 (fun j => .int (r1 j))).slots.size : Int); rw [arrV_size]; omega)
    (fun vm₁ _ i hi => by
      rw [eN] at hi
      have g : scr.slots.getD ((0 : Int32).toNatClampNeg + i) .null = .int (r0 ((0 : Int32).toNatClampNeg + i)) := by
        rw [Array.getD_eq_getD_getElem?, s5 _ (by rw [e0]; omega)]; rfl
      rw [g]
      exact ⟨rfl, trivial⟩)
    (g := F0 m pc ls (.int (nI n0) :: .int 0 :: .ref a :: .int 0 :: .ref t :: st)) rfl (by rw [hC.2.2.1]; exact h.1) (rest := st) rfl (by rw [hC.2.1]; exact hdg) hfr (by show 2 * 0 + _ + _ ≤ _; omega)
  have e1 : copied scr (vp_cell (κ.2.1 1) (n1, .inl r1)) 0 0 (nI n0) = vp_cell (κ.2.1 1) (n1, .inl (va_cpy r0 r1 0 0 n0)) := by
    have q := va_copiedX (n1 := n1) (sp := 0) (dp := 0) (n := (nI n0).toNatClampNeg) (fun z => Value.int z) scr (κ.2.1 1) r0 r1 s5 (by omega)
    refine Eq.trans q ?_
    rw [eN]
    rfl
  rw [e1] at X' step
  have hP2 := hP; have hD2 := hD
  have hE : (va_pl L f).set q1 (a, .inl (κ.2.1 1, n1, .inl (va_cpy r0 r1 0 0 n0))) = va_pl L (va_up f a (.inl (κ.2.1 1, n1, .inl (va_cpy r0 r1 0 0 n0)))) := pv_set hD hL1 hf1 hq1
  have hA : A a := hD.2 q1 _ hq1
  have hl : a < H.size := (Array.getElem?_eq_some_iff.mp hc1).1
  generalize hC2 : vp_cell (κ.2.1 1) (n1, .inl (va_cpy r0 r1 0 0 n0)) = C2 at X' step
  have oq : ∀ q : Nat, q ≠ a → (H.setIfInBounds a C2)[q]? = H[q]? := fun q hq => by rw [Array.getElem?_setIfInBounds, if_neg (Ne.symm hq)]
  have eq : (H.setIfInBounds a C2)[a]? = some C2 := by rw [Array.getElem?_setIfInBounds, if_pos rfl, if_pos hl]
  have hP3 := hP.set (e := .inl (κ.2.1 1, n1, .inl (va_cpy r0 r1 0 0 n0))) (H1 := H.setIfInBounds a C2) hD hq1 (show (H.setIfInBounds a C2)[a]? = some (vp_cell (κ.2.1 1) (n1, .inl (va_cpy r0 r1 0 0 n0))) by rw [hC2]; exact eq) oq
  have hD3 := hD.set (e := .inl (κ.2.1 1, n1, .inl (va_cpy r0 r1 0 0 n0))) hq1
  rw [hE] at hP3 hD3
  obtain ⟨t2, a1, b1⟩ := kk (H.setIfInBounds a C2) _ ls hP3 hD3 ⟨by rw [Array.size_setIfInBounds]; exact hS.1, fun q g1 g2 => (oq q (fun z => g2 (z ▸ hA))).trans (hS.2.1 q g1 g2), fun q hq => by
    rcases List.mem_append.mp hq with z | z
    · exact hS.2.2 q z
    · obtain ⟨i, -, rfl⟩ := List.mem_map.mp z
      exact hA⟩ h ((T.setVm vm').setCell a C2) (by rw [← hT]; rfl) X'
  exact ⟨t2, step t2 a1, b1⟩
end PVNW
end
section
/-! ===== what a constructor makes: the pool L0, f0 grows to L, f; a is the object made (code o), xs the addresses of its codes S, E their contents ===== -/
def p1 (o : Nat) (xs : Nat → Nat) (L0 : List Nat) (f0 : Nat → va_E) (a : Nat) (L : List Nat) (f : Nat → va_E) (S : Nat → Prop) (E : Nat → va_E) : Prop :=
  (∀ b ∈ L0, b ∈ L ∧ (b ≠ a → f b = f0 b)) ∧ (∀ k, S k → xs k ∈ L ∧ f (xs k) = E k) ∧ (∀ j k, S j → S k → xs j = xs k → j = k) ∧ (∀ k, S k → k ≠ o → xs k ∉ L0) ∧ S o ∧ xs o = a ∧ a ∈ L0
section PONE
variable {o : Nat} {xs : Nat → Nat} {L0 : List Nat} {f0 : Nat → va_E} {a : Nat} {L : List Nat} {f : Nat → va_E} {S S' : Nat → Prop} {E E' : Nat → va_E}
theorem p1_0 {e : va_E} (o : Nat) (ha : a ∈ L) (hf : f a = e) : p1 o (fun _ => a) L f a L f (fun k => k = o) (fun _ => e) :=
  ⟨fun b hb => ⟨hb, fun _ => rfl⟩, fun k hk => ⟨ha, hf⟩, fun j k hj hk _ => hj.trans hk.symm, fun k hk h => absurd hk h, rfl, rfl, ha⟩
theorem p1_o (h : p1 o xs L0 f0 a L f S E) : a ∈ L ∧ f a = E o := by
  have h1 := h.2.1 o h.2.2.2.2.1
  rw [h.2.2.2.2.2.1] at h1
  exact h1
theorem p1_at (h : p1 o xs L0 f0 a L f S E) {k : Nat} (hk : S k) : xs k ∈ L ∧ f (xs k) = E k := h.2.1 k hk
theorem p1_push (h : p1 o xs L0 f0 a L f S E) {q : Nat} (hq : q ∉ L) (k : Nat) (hk : ¬ S k) (e : va_E) : p1 o (va_up xs k q) L0 f0 a (L ++ [q]) (va_up f q e) (fun c => c = k ∨ S c) (va_up E k e) := by
  obtain ⟨h1, h2, h3, h4, h5, h6, h7⟩ := h
  have hko : ∀ c, S c → c ≠ k := fun c hc z => hk (z ▸ hc)
  have hLq : ∀ b, b ∈ L → b ≠ q := fun b hb z => hq (z ▸ hb)
  refine ⟨fun b hb => ⟨List.mem_append_left _ (h1 b hb).1, fun hba => (va_up_ne _ _ (hLq b (h1 b hb).1)).trans ((h1 b hb).2 hba)⟩, fun c hc => ?_, fun c d hc hd => ?_, fun c hc hco => ?_, Or.inr h5, (va_up_ne _ _ (hko o h5)).trans h6, h7⟩
  · by_cases z : c = k
    · subst z
      rw [va_up_e, va_up_e]
      exact ⟨List.mem_append_right _ List.mem_cons_self, va_up_e.symm⟩
    · have hc' := hc.resolve_left z
      rw [va_up_ne _ _ z, va_up_ne _ _ z, va_up_ne _ _ (hLq _ (h2 c hc').1)]
      exact ⟨List.mem_append_left _ (h2 c hc').1, (h2 c hc').2⟩
  · intro hcd
    by_cases z : c = k
    · by_cases w : d = k
      · rw [z, w]
      · rw [z, va_up_e, va_up_ne _ _ w] at hcd
        exact absurd hcd.symm (hLq _ (h2 d (hd.resolve_left w)).1)
    · by_cases w : d = k
      · rw [w, va_up_e, va_up_ne _ _ z] at hcd
        exact absurd hcd (hLq _ (h2 c (hc.resolve_left z)).1)
      · rw [va_up_ne _ _ z, va_up_ne _ _ w] at hcd
        exact h3 c d (hc.resolve_left z) (hd.resolve_left w) hcd
  · by_cases z : c = k
    · rw [z, va_up_e]
      exact fun w => hq (h1 q w).1
    · rw [va_up_ne _ _ z]
      exact h4 c (hc.resolve_left z) hco
theorem p1_set (h : p1 o xs L0 f0 a L f S E) {k q : Nat} (hk : S k) (hq : xs k = q) (e : va_E) : p1 o xs L0 f0 a L (va_up f q e) S (va_up E k e) := by
  subst hq
  obtain ⟨h1, h2, h3, h4, h5, h6, h7⟩ := h
  refine ⟨fun b hb => ⟨(h1 b hb).1, fun hba => ?_⟩, fun c hc => ⟨(h2 c hc).1, ?_⟩, h3, h4, h5, h6, h7⟩
  · by_cases z : k = o
    · subst z
      rw [h6, va_up_ne _ _ hba]; exact (h1 b hb).2 hba
    · rw [va_up_ne _ _ (fun w => h4 k hk z (by rw [← w]; exact hb))]; exact (h1 b hb).2 hba
  · by_cases z : c = k
    · subst z
      rw [va_up_e, va_up_e]
    · rw [va_up_ne _ _ z, va_up_ne _ _ (fun w => z (h3 c k hc hk w))]
      exact (h2 c hc).2
theorem p1_to (h : p1 o xs L0 f0 a L f S E) (hS : ∀ k, S' k → S k) (ho : S' o) (hE : ∀ k, S' k → E' k = E k) : p1 o xs L0 f0 a L f S' E' := by
  obtain ⟨h1, h2, h3, h4, h5, h6, h7⟩ := h
  exact ⟨h1, fun k hk => ⟨(h2 k (hS k hk)).1, by rw [hE k hk]; exact (h2 k (hS k hk)).2⟩, fun j k hj hk => h3 j k (hS j hj) (hS k hk), fun k hk => h4 k (hS k hk), ho, h6, h7⟩
/-- what another constructor made of the object at B + o2 comes in, its code d under the code B + d -/
theorem p1_in (h : p1 o xs L0 f0 a L f S E) (B : Nat) {o2 : Nat} {ys : Nat → Nat} {L2 : List Nat} {f2 : Nat → va_E} {S2 : Nat → Prop} [DecidablePred S2] {E2 : Nat → va_E} (hk : S (B + o2)) (hko : B + o2 ≠ o) (h2 : p1 o2 ys L f (xs (B + o2)) L2 f2 S2 E2) (hfr : ∀ d, S2 d → d ≠ o2 → ¬ S (B + d)) : p1 o (fun c => if B ≤ c ∧ S2 (c - B) then ys (c - B) else xs c) L0 f0 a L2 f2 (fun c => S c ∨ (B ≤ c ∧ S2 (c - B))) (fun c => if B ≤ c ∧ S2 (c - B) then E2 (c - B) else E c) := by
  obtain ⟨h1, hh2, h3, h4, h5, h6, h7⟩ := h
  obtain ⟨g1, g2, g3, g4, g5, g6, g7⟩ := h2
  have hxk : xs (B + o2) ∉ L0 := h4 _ hk hko
  have hDk : B ≤ B + o2 ∧ S2 (B + o2 - B) := ⟨by omega, by rw [show B + o2 - B = o2 by omega]; exact g5⟩
  have hDo : ¬ (B ≤ o ∧ S2 (o - B)) := fun z => hfr (o - B) z.2 (fun w => hko (by omega)) (by rw [show B + (o - B) = o by omega]; exact h5)
  have hys : ∀ d, S2 d → d ≠ o2 → ys d ∉ L := g4
  have ne : ∀ c d, (B ≤ c ∧ S2 (c - B)) → ¬ (B ≤ d ∧ S2 (d - B)) → S d → ¬ ys (c - B) = xs d := by
    intro c d hc hd hSd q
    by_cases z : c - B = o2
    · rw [z, g6] at q
      have := h3 _ _ hk hSd q
      subst this
      exact hd hDk
    · exact hys _ hc.2 z (q ▸ (hh2 d hSd).1)
  refine ⟨fun b hb => ⟨(g1 b (h1 b hb).1).1, fun hba => ((g1 b (h1 b hb).1).2 (fun z => hxk (by rw [← z]; exact hb))).trans ((h1 b hb).2 hba)⟩, fun c hc => ?_, fun c d hc hd hcd => ?_, fun c hc hco => ?_, Or.inl h5, ?_, h7⟩
  · by_cases z : B ≤ c ∧ S2 (c - B)
    · simp only [if_pos z]; exact g2 _ z.2
    · have hSc := hc.resolve_right z
      have hne : xs c ≠ xs (B + o2) := fun w => z (by rw [h3 _ _ hSc hk w]; exact hDk)
      simp only [if_neg z]
      exact ⟨(g1 _ (hh2 c hSc).1).1, ((g1 _ (hh2 c hSc).1).2 hne).trans (hh2 c hSc).2⟩
  · by_cases z : B ≤ c ∧ S2 (c - B)
    · by_cases w : B ≤ d ∧ S2 (d - B)
      · simp only [if_pos z, if_pos w] at hcd
        have := g3 _ _ z.2 w.2 hcd
        omega
      · simp only [if_pos z, if_neg w] at hcd
        exact absurd hcd (ne c d z w (hd.resolve_right w))
    · by_cases w : B ≤ d ∧ S2 (d - B)
      · simp only [if_neg z, if_pos w] at hcd
        exact absurd hcd.symm (ne d c w z (hc.resolve_right z))
      · simp only [if_neg z, if_neg w] at hcd
        exact h3 _ _ (hc.resolve_right z) (hd.resolve_right w) hcd
  · by_cases z : B ≤ c ∧ S2 (c - B)
    · simp only [if_pos z]
      by_cases w : c - B = o2
      · rw [w, g6]; exact hxk
      · exact fun q => hys _ z.2 w (h1 _ q).1
    · simp only [if_neg z]
      exact h4 c (hc.resolve_right z) hco
  · simp only [if_neg hDo]; exact h6
end PONE
set_option maxHeartbeats 2000000 in
set_option maxRecDepth 20000 in
theorem cX4_copyt_c (l : Launch) {κ : pv_Kt} {L : List Nat} {f : Nat → va_E} {a : Nat} {r1 : Nat → Int32} (hL1 : a ∈ L) (hf1 : f a = .inl (κ.2.1 1, 5, .inl r1)) : pv_Mv l κ yX4_copy wsX4_copy rmX4_copy L f [.ref (κ.2.2 0), .ref a] 0 0 (fun u => u = (L, va_up f a (.inl (κ.2.1 1, 5, .inl (va_cpy pv_t0 r1 0 0 5))))) := by
  refine pv_startV (cc := cX4_copy) (maxL := 2) (ret := none) (by decide) rfl (Nat.le_of_ble_eq_true rfl) (fun A0 P0 E0 S0 M0 a9 B0 T0 C0 hC => ?_)
  have ht := hC.2.2.2.2.2.2.2.2.2.1.1.1
  refine pg_sub (vs' := [(0, .ref (κ.2.2 0)), (1, .ref a)]) [0, 1] rfl ?_
  refine pg_aload_n (pc := 0) hC dX4_copy_0 0 rfl rfl ?_
  refine pg_iconst (pc := 1) (v := 0) hC dX4_copy_1 (by decide) ?_
  refine pg_aload_n (pc := 2) hC dX4_copy_2 1 rfl rfl ?_
  refine pg_iconst (pc := 3) (v := 0) hC dX4_copy_3 (by decide) ?_
  refine pg_aload_n (pc := 4) hC dX4_copy_4 0 rfl rfl ?_
  refine pg_tlen (pc := 5) (v := 5) hC dX4_copy_5 ht (by decide) ?_
  refine pg_aload_n (pc := 6) hC dX4_copy_6 1 rfl rfl ?_
  refine pg_alen (pc := 7) (v := 5) hC dX4_copy_7 1 rfl hL1 hf1 rfl ?_
  refine pg_mmin (pc := 8) hC dX4_copy_8 (List.mem_of_getElem? (i := 1) rfl) (List.mem_of_getElem? (i := 2) rfl) (List.mem_of_getElem? (i := 3) rfl) (List.mem_of_getElem? (i := 4) rfl) (Nat.le_of_ble_eq_true rfl) (Nat.le_of_ble_eq_true rfl) (Nat.zero_le _) (Nat.zero_le _) ?_
  refine pg_top (pc := 11) (x' := nI 5) (ite_self _) ?_
  refine pg_copyt (pc := 11) hC dX4_copy_11 (List.mem_of_getElem? (i := 5) rfl) (List.mem_of_getElem? (i := 6) rfl) (List.mem_of_getElem? (i := 7) rfl) (List.mem_of_getElem? (i := 8) rfl) ht hL1 hf1 5 (by decide) (by decide) rfl (Nat.le_of_ble_eq_true rfl) (Nat.le_of_ble_eq_true rfl) ?_
  exact pg_vret (pc := 14) hC dX4_copy_14 rfl rfl
end
section
section PONR
variable {κ : pv_Kt} {p : Program} {l : Launch} {e : Env} {R : Room} {s : State} {m : MethodId} {args : Array Value} {below : List Frame} {meth : Method} {c : Code} {Q : State → Prop} {A : Nat → Prop} {nL : Nat} {cells slots : Nat} {L : List Nat} {f : Nat → va_E} {pc : Nat} {vs : List (Nat × Value)} {st : List Value}
variable {y : MethodName} {cc : ByteArray} {Ts : List Cond} {rt : Option FieldType}
variable {o : Nat} {xs : Nat → Nat} {L0 : List Nat} {f0 : Nat → va_E} {a : Nat} {S : Nat → Prop} {E : Nat → va_E}
theorem pg1_new (hC : pv_C κ p R s m args meth c y cc nL Ts rt A) (h : p1 o xs L0 f0 a L f S E) (K : Nat) (hK : ¬ S K) {C2 : String} {T : u_T} {N ci index : Nat} (hdg : decode cc pc = .ok (.new index, 3)) (hin : ∀ w ∈ u_ws C2 T N, w ∈ Ts) (ty0 : Nat → FieldType) (hty : ∀ k, k < N → parseFieldDescriptor (T k).2.2.1 = some (ty0 k)) (hcl : vwCl[ci]? = some (C2, T, N)) (h1 : Cond.classLink y.cls index C2 ∈ Ts) (h2 : Cond.instantiable C2 N ∈ Ts) (h3 : Cond.initialized C2 ∈ Ts) {fs : List Value} (hfs : ∀ j, j < N → defaultValue (ty0 j) = vp_V fs j) (hcs : cells + 1 ≤ R.cells ∧ slots + N ≤ R.slots) (kk : ∀ (q : Nat) (L1 : List Nat) (f1 : Nat → va_E), p1 o (va_up xs K q) L0 f0 a L1 f1 (fun c => c = K ∨ S c) (va_up E K (.inr (ci, fs))) → pv_G κ p l e R s m args below meth c Q A nL (cells + 1) (slots + N) L1 f1 (pc + 3) vs (.ref q :: st)) : pv_G κ p l e R s m args below meth c Q A nL cells slots L f pc vs st :=
  pg_new hC hdg hin ty0 hty hcl h1 h2 h3 hfs hcs (fun q hq => kk q _ _ (p1_push h hq K hK _))
theorem pg1_newa (hC : pv_C κ p R s m args meth c y cc nL Ts rt A) (h : p1 o xs L0 f0 a L f S E) (K : Nat) (hK : ¬ S K) {atype : ArrayType} {N : Nat} {n : Int32} (hdg : decode cc pc = .ok (.newarray atype, 2)) (k0 : Nat) {ty : FieldType} (hk : (pv_tys κ)[k0]? = some (κ.2.1 k0, ty)) (hty : newarray.typeOf atype = ty) (hTy : ty = .char ∨ ty = .int ∨ ty = .boolean) (h1 : Cond.arrayClass (newarray.typeOf atype) ∈ Ts) (hn : n = nI N) (hN : N < 2 ^ 20) (hcs : cells + 1 ≤ R.cells ∧ slots + N ≤ R.slots) (kk : ∀ (q : Nat) (L1 : List Nat) (f1 : Nat → va_E), p1 o (va_up xs K q) L0 f0 a L1 f1 (fun c => c = K ∨ S c) (va_up E K (.inl (κ.2.1 k0, N, .inl (fun _ => 0)))) → pv_G κ p l e R s m args below meth c Q A nL (cells + 1) (slots + N) L1 f1 (pc + 2) vs (.ref q :: st)) : pv_G κ p l e R s m args below meth c Q A nL cells slots L f pc vs (.int n :: st) :=
  pg_newa hC hdg k0 hk hty hTy h1 hn hN hcs (fun q hq => kk q _ _ (p1_push h hq K hK _))
theorem pg1_newq (hC : pv_C κ p R s m args meth c y cc nL Ts rt A) (h : p1 o xs L0 f0 a L f S E) (K : Nat) (hK : ¬ S K) {index N : Nat} {n : Int32} (hdg : decode cc pc = .ok (.anewarray index, 3)) (h1 : Cond.classLink y.cls index "ExcuseTariffs$School" ∈ Ts) (hn : n = nI N) (hN : N < 2 ^ 20) (hcs : cells + 1 ≤ R.cells ∧ slots + N ≤ R.slots) (kk : ∀ (q : Nat) (L1 : List Nat) (f1 : Nat → va_E), p1 o (va_up xs K q) L0 f0 a L1 f1 (fun c => c = K ∨ S c) (va_up E K (.inl (κ.2.1 3, N, .inr (.inr (.inr (.inr (fun _ => none))))))) → pv_G κ p l e R s m args below meth c Q A nL (cells + 1) (slots + N) L1 f1 (pc + 3) vs (.ref q :: st)) : pv_G κ p l e R s m args below meth c Q A nL cells slots L f pc vs (.int n :: st) :=
  pg_newq hC hdg h1 hn hN hcs (fun q hq => kk q _ _ (p1_push h hq K hK _))
theorem pg1_put (hC : pv_C κ p R s m args meth c y cc nL Ts rt A) (h : p1 o xs L0 f0 a L f S E) {C2 : String} {T : u_T} {N ci index : Nat} {fs : List Value} {v : Value} {ty : FieldType} (hE : E o = .inr (ci, fs)) (hdg : decode cc pc = .ok (.putfield index, 3)) (k : Nat) (hin : ∀ w ∈ u_ws C2 T N, w ∈ Ts) (ty0 : Nat → FieldType) (hty : ∀ k, k < N → parseFieldDescriptor (T k).2.2.1 = some (ty0 k)) (hnm : ∀ a, a < N → ∀ b, b < N → a ≠ b → (T a).2.1 ≠ (T b).2.1) (hlink : Cond.fieldLink y.cls index C2 (T k).2.1 (T k).2.2.1 ∈ Ts) (hcl : vwCl[ci]? = some (C2, T, N)) (hk : k < N) (hT : (T k).1 = C2) (hini : y.name = "<init>") (hdecl : (T k).1 = y.cls) (hd : parseFieldDescriptor (T k).2.2.1 = some ty) (hn : narrow ty v = v) (hfit : fits ty v = true) (hl : k < fs.length) (kk : ∀ f1 : Nat → va_E, p1 o xs L0 f0 a L f1 S (va_up E o (.inr (ci, fs.set k v))) → pv_G κ p l e R s m args below meth c Q A nL cells slots L f1 (pc + 3) vs st) : pv_G κ p l e R s m args below meth c Q A nL cells slots L f pc vs (v :: .ref a :: st) := by
  have hf : f a = .inr (ci, fs) := (p1_o h).2.trans hE
  have hh := p1_set h h.2.2.2.2.1 h.2.2.2.2.2.1 (.inr (ci, fs.set k v))
  cases hfin : (T k).2.2.2 with
  | true => exact pg_putF hC hdg k hin ty0 hty hnm hlink (p1_o h).1 hf hcl hk hT hfin hini hdecl hd hn hfit hl (kk _ hh)
  | false => exact pg_put hC hdg k hin ty0 hty hnm hlink (p1_o h).1 hf hcl hk hT hfin hd hn hfit hl (kk _ hh)
theorem pg1_get (hC : pv_C κ p R s m args meth c y cc nL Ts rt A) (h : p1 o xs L0 f0 a L f S E) {C2 : String} {T : u_T} {N ci index : Nat} {fs : List Value} {v : Value} (hE : E o = .inr (ci, fs)) (hdg : decode cc pc = .ok (.getfield index, 3)) (k : Nat) (hin : ∀ w ∈ u_ws C2 T N, w ∈ Ts) (hlink : Cond.fieldLink y.cls index C2 (T k).2.1 (T k).2.2.1 ∈ Ts) (hcl : vwCl[ci]? = some (C2, T, N)) (hk : k < N) (hT : (T k).1 = C2) (hv : fs[k]? = some v) (kk : pv_G κ p l e R s m args below meth c Q A nL cells slots L f (pc + 3) vs (v :: st)) : pv_G κ p l e R s m args below meth c Q A nL cells slots L f pc vs (.ref a :: st) :=
  pg_get hC hdg k hin hlink (p1_o h).1 ((p1_o h).2.trans hE) hcl hk hT hv kk
theorem pg1_iast (hC : pv_C κ p R s m args meth c y cc nL Ts rt A) (h : p1 o xs L0 f0 a L f S E) (K : Nat) (hK : S K) {q n : Nat} {row : Nat → Int32} {i x : Int32} (hE : E K = .inl (κ.2.1 1, n, .inl row)) (hq : xs K = q) (hdg : decode cc pc = .ok (.iastore, 1)) (j : Nat) (hi : i = nI j) (hj : j < n) (hn : n < 2 ^ 31) (kk : ∀ f1 : Nat → va_E, p1 o xs L0 f0 a L f1 S (va_up E K (.inl (κ.2.1 1, n, .inl (va_up row j x)))) → pv_G κ p l e R s m args below meth c Q A nL cells slots L f1 (pc + 1) vs st) : pv_G κ p l e R s m args below meth c Q A nL cells slots L f pc vs (.int x :: .int i :: .ref q :: st) := by
  have hh := p1_set h hK hq (.inl (κ.2.1 1, n, .inl (va_up row j x)))
  subst hq
  exact pg_iast hC hdg j (p1_at h hK).1 ((p1_at h hK).2.trans hE) hi hj hn (kk _ hh)
theorem pg1_astq (hC : pv_C κ p R s m args meth c y cc nL Ts rt A) (h : p1 o xs L0 f0 a L f S E) (K K2 : Nat) (hK : S K) (hK2 : S K2) {q b n : Nat} {row : Nat → Option Nat} {i : Int32} {fs : List Value} (hE : E K = .inl (κ.2.1 3, n, .inr (.inr (.inr (.inr row))))) (hE2 : E K2 = .inr (3, fs)) (hq : xs K = q) (hb : xs K2 = b) (hdg : decode cc pc = .ok (.aastore, 1)) (j : Nat) (hi : i = nI j) (hj : j < n) (hn : n < 2 ^ 31) (kk : ∀ f1 : Nat → va_E, p1 o xs L0 f0 a L f1 S (va_up E K (.inl (κ.2.1 3, n, .inr (.inr (.inr (.inr (va_up row j (some b)))))))) → pv_G κ p l e R s m args below meth c Q A nL cells slots L f1 (pc + 1) vs st) : pv_G κ p l e R s m args below meth c Q A nL cells slots L f pc vs (.ref b :: .int i :: .ref q :: st) := by
  have hh := p1_set h hK hq (.inl (κ.2.1 3, n, .inr (.inr (.inr (.inr (va_up row j (some b)))))))
  subst hq; subst hb
  exact pg_astq hC hdg j (p1_at h hK).1 ((p1_at h hK).2.trans hE) (p1_at h hK2).1 ((p1_at h hK2).2.trans hE2) rfl rfl hi hj hn (kk _ hh)
/-- a constructor's contract, and its call on the object of code B + o2 -/
def pv_Wn (o : Nat) (L : List Nat) (f : Nat → va_E) (a : Nat) (S : Nat → Prop) (E : (Nat → Nat) → Nat → va_E) : List Nat × (Nat → va_E) → Prop := fun u => ∃ xs : Nat → Nat, p1 o xs L f a u.1 u.2 S (E xs)
end PONR
/-! loops that make -/
section PLOOPN
variable {κ : pv_Kt} {p : Program} {l : Launch} {e : Env} {R : Room} {s : State} {m : MethodId} {args : Array Value} {below : List Frame} {meth : Method} {c : Code} {Q : State → Prop} {A : Nat → Prop} {nL : Nat} {pc : Nat}
theorem pg_loopN {σ : Type} (I : σ → Prop) (μ : σ → Nat) (CE SL : σ → Nat) (LL : σ → List Nat) (VS : σ → List (Nat × Value)) (FF : σ → Nat → va_E) (step : ∀ q, I q → (∀ q2, I q2 → μ q2 < μ q → pv_G κ p l e R s m args below meth c Q A nL (CE q2) (SL q2) (LL q2) (FF q2) pc (VS q2) []) → pv_G κ p l e R s m args below meth c Q A nL (CE q) (SL q) (LL q) (FF q) pc (VS q) []) (q0 : σ) (h0 : I q0) : pv_G κ p l e R s m args below meth c Q A nL (CE q0) (SL q0) (LL q0) (FF q0) pc (VS q0) [] := by
  have key : ∀ (n : Nat) (q : σ), μ q < n → I q → pv_G κ p l e R s m args below meth c Q A nL (CE q) (SL q) (LL q) (FF q) pc (VS q) [] := by
    intro n
    induction n with
    | zero => intro q h; omega
    | succ n ih => intro q h hq; exact step q hq (fun q2 h2 hlt => ih q2 (by omega) h2)
  exact key (μ q0 + 1) q0 (by omega) h0
end PLOOPN
/-! what the constructors make -/
def sI6 : Nat → Nat → Int32 | 0 => fun _ => 0 | k + 1 => va_up (sI6 k) k 5
def sI11 : Nat → Nat → Int32 | 0 => fun _ => 0 | k + 1 => va_up (sI11 k) k (-6)
/-- a new school's table -/
def sI : Nat → Nat → Int32 := fun k => if k = 0 then va_cpy pv_t0 (fun _ => 0) 0 0 5 else if k = 6 then sI6 10 else if k = 11 then sI11 10 else fun _ => 0
def pS_E (κ : pv_Kt) (xs : Nat → Nat) (z : Nat → Nat → Int32) (k : Nat) : va_E := if k = 1 then .inr (3, pv_so xs z) else .inl (κ.2.1 1, pv_sl k, .inl (z k))
def zS (a b : Nat) : Nat → Nat → Int32 := fun k => if k = 0 then va_cpy pv_t0 (fun _ => 0) 0 0 5 else if k = 6 then sI6 a else if k = 11 then sI11 b else fun _ => 0
theorem sI_zS : sI = zS 10 10 := rfl
theorem pS_E_up6 {κ : pv_Kt} {X : Nat → Nat} {a b : Nat} : va_up (pS_E κ X (zS a b)) 6 (.inl (κ.2.1 1, 10, .inl (va_up (sI6 a) a 5))) = pS_E κ X (zS (a + 1) b) := by
  funext c
  by_cases h : c = 6
  · subst h; rw [va_up_e]; rfl
  · rw [va_up_ne _ _ h]
    unfold pS_E
    by_cases h1 : c = 1
    · rw [if_pos h1, if_pos h1]; rfl
    · rw [if_neg h1, if_neg h1]; simp only [zS, h, if_false]
theorem pS_E_up11 {κ : pv_Kt} {X : Nat → Nat} {a b : Nat} : va_up (pS_E κ X (zS a b)) 11 (.inl (κ.2.1 1, 10, .inl (va_up (sI11 b) b (-6)))) = pS_E κ X (zS a (b + 1)) := by
  funext c
  by_cases h : c = 11
  · subst h; rw [va_up_e]; rfl
  · rw [va_up_ne _ _ h]
    unfold pS_E
    by_cases h1 : c = 1
    · rw [if_pos h1, if_pos h1]; rfl
    · rw [if_neg h1, if_neg h1]; simp only [zS, h, if_false]
def pM_E (κ : pv_Kt) (xs : Nat → Nat) (z : Nat → Nat → Int32) (k : Nat) : va_E := if k = 2 then .inr (5, pv_mo xs z) else if k = 4 then .inl (κ.2.1 2, 2, .inl (z 4)) else .inl (κ.2.1 1, pv_ml k, .inl (z k))
theorem pM_E_up0 {κ : pv_Kt} {X : Nat → Nat} {z : Nat → Nat → Int32} {j : Nat} {v : Int32} : va_up (pM_E κ X z) 0 (.inl (κ.2.1 1, 234, .inl (va_up (z 0) j v))) = pM_E κ X (zu z 0 j v) := by
  funext c
  by_cases h : c = 0
  · subst h; rw [va_up_e]; rfl
  · rw [va_up_ne _ _ h]
    unfold pM_E
    by_cases h1 : c = 2
    · rw [if_pos h1, if_pos h1]; rfl
    · rw [if_neg h1, if_neg h1, zu_o (show 4 ≠ 0 by decide), zu_o h]
end
section
abbrev rmX2_init : Room := { frames := 1, cells := 0, slots := 0, locals := 22 }
theorem miX2_init_X2 : ∀ w ∈ wsX20, w ∈ wsX2_init := fun _ h => List.mem_cons_of_mem _ (List.mem_append_right _ h)
set_option maxHeartbeats 4000000 in
set_option maxRecDepth 20000 in
theorem cX2_init_c (l : Launch) {κ : pv_Kt} {L : List Nat} {f : Nat → va_E} {a : Nat} (hL : a ∈ L) (hf : f a = .inr (2, [.int 0, .int 0, .int 0, .int 0, .int 0])) : pv_Mv l κ yX2_init wsX2_init rmX2_init L f [.ref a] 0 0 (pv_Wn 0 L f a (fun k => k = 0) (fun _ _ => .inr (2, [.int 0, .int 0, .int 0, .int 0, .int (-6)]))) := by
  refine pv_startV (cc := cX2_init) (maxL := 1) (ret := none) (by decide) rfl (Nat.le_of_ble_eq_true rfl) (fun A0 P0 E0 S0 M0 a0 B0 T0 C0 hC => ?_)
  refine pg_sub (vs' := [(0, .ref a)]) [0] rfl ?_
  have h0 := p1_0 0 hL hf
  refine pg_aload_n (pc := 0) hC dX2_init_0 0 rfl rfl ?_
  refine pg_objInit (pc := 1) hC dX2_init_1 (List.mem_of_getElem? (i := 1) rfl) (List.mem_of_getElem? (i := 2) rfl) (List.mem_of_getElem? (i := 3) rfl) (Nat.le_of_ble_eq_true rfl) (Nat.le_of_ble_eq_true rfl) ?_
  refine pg_aload_n (pc := 4) hC dX2_init_4 0 rfl rfl ?_
  refine pg_iconst (pc := 5) (v := 0) hC dX2_init_5 (by decide) ?_
  refine pg1_put (pc := 6) (ty := tyX2 0) (fs := [.int 0, .int 0, .int 0, .int 0, .int 0]) hC h0 rfl dX2_init_6 0 miX2_init_X2 tyX2 tyX2_ok nmX2 (List.mem_of_getElem? (i := 4) rfl) rfl (by decide) rfl rfl rfl (tyX2_ok 0 (by decide)) rfl rfl (Nat.le_of_ble_eq_true rfl) (fun f1 h1 => ?_)
  refine pg_aload_n (pc := 9) hC dX2_init_9 0 rfl rfl ?_
  refine pg_iconst (pc := 10) (v := 0) hC dX2_init_10 (by decide) ?_
  refine pg1_put (pc := 11) (ty := tyX2 1) (fs := [.int 0, .int 0, .int 0, .int 0, .int 0]) hC h1 rfl dX2_init_11 1 miX2_init_X2 tyX2 tyX2_ok nmX2 (List.mem_of_getElem? (i := 5) rfl) rfl (by decide) rfl rfl rfl (tyX2_ok 1 (by decide)) rfl rfl (Nat.le_of_ble_eq_true rfl) (fun f2 h2 => ?_)
  refine pg_aload_n (pc := 14) hC dX2_init_14 0 rfl rfl ?_
  refine pg_iconst (pc := 15) (v := 0) hC dX2_init_15 (by decide) ?_
  refine pg1_put (pc := 16) (ty := tyX2 2) (fs := [.int 0, .int 0, .int 0, .int 0, .int 0]) hC h2 rfl dX2_init_16 2 miX2_init_X2 tyX2 tyX2_ok nmX2 (List.mem_of_getElem? (i := 6) rfl) rfl (by decide) rfl rfl rfl (tyX2_ok 2 (by decide)) rfl rfl (Nat.le_of_ble_eq_true rfl) (fun f3 h3 => ?_)
  refine pg_aload_n (pc := 19) hC dX2_init_19 0 rfl rfl ?_
  refine pg_iconst (pc := 20) (v := 0) hC dX2_init_20 (by decide) ?_
  refine pg1_put (pc := 21) (ty := tyX2 3) (fs := [.int 0, .int 0, .int 0, .int 0, .int 0]) hC h3 rfl dX2_init_21 3 miX2_init_X2 tyX2 tyX2_ok nmX2 (List.mem_of_getElem? (i := 7) rfl) rfl (by decide) rfl rfl rfl (tyX2_ok 3 (by decide)) rfl rfl (Nat.le_of_ble_eq_true rfl) (fun f4 h4 => ?_)
  refine pg_aload_n (pc := 24) hC dX2_init_24 0 rfl rfl ?_
  refine pg_bipush (pc := 25) (v := (-6)) hC dX2_init_25 (by decide) ?_
  refine pg1_put (pc := 27) (ty := tyX2 4) (fs := [.int 0, .int 0, .int 0, .int 0, .int 0]) hC h4 rfl dX2_init_27 4 miX2_init_X2 tyX2 tyX2_ok nmX2 (List.mem_of_getElem? (i := 8) rfl) rfl (by decide) rfl rfl rfl (tyX2_ok 4 (by decide)) rfl rfl (Nat.le_of_ble_eq_true rfl) (fun f5 h5 => ?_)
  exact pg_vret (pc := 30) hC dX2_init_30 rfl ⟨_, p1_to h5 (fun _ hk => hk) rfl (fun k hk => by rw [show k = 0 from hk]; rfl)⟩
abbrev rmX1_init : Room := { frames := 1, cells := 1, slots := 60, locals := 22 }
theorem miX1_init_X1 : ∀ w ∈ wsX10, w ∈ wsX1_init := fun _ h => List.mem_cons_of_mem _ (List.mem_append_right _ h)
set_option maxHeartbeats 4000000 in
set_option maxRecDepth 20000 in
theorem cX1_init_c (l : Launch) {κ : pv_Kt} {L : List Nat} {f : Nat → va_E} {a : Nat} (hL : a ∈ L) (hf : f a = .inr (1, [.null, .int 0])) : pv_Mv l κ yX1_init wsX1_init rmX1_init L f [.ref a] 1 60 (pv_Wn 1 L f a (fun k => k < 2) (fun xs k => if k = 1 then .inr (1, [.ref (xs 0), .int 0]) else .inl (κ.2.1 0, 60, .inl (fun _ => 0)))) := by
  refine pv_startV (cc := cX1_init) (maxL := 1) (ret := none) (by decide) rfl (Nat.le_of_ble_eq_true rfl) (fun A0 P0 E0 S0 M0 a0 B0 T0 C0 hC => ?_)
  refine pg_sub (vs' := [(0, .ref a)]) [0] rfl ?_
  have h0 := p1_0 1 hL hf
  refine pg_aload_n (pc := 0) hC dX1_init_0 0 rfl rfl ?_
  refine pg_objInit (pc := 1) hC dX1_init_1 (List.mem_of_getElem? (i := 1) rfl) (List.mem_of_getElem? (i := 2) rfl) (List.mem_of_getElem? (i := 3) rfl) (Nat.le_of_ble_eq_true rfl) (Nat.le_of_ble_eq_true rfl) ?_
  refine pg_aload_n (pc := 4) hC dX1_init_4 0 rfl rfl ?_
  refine pg_bipush (pc := 5) (v := 60) hC dX1_init_5 (by decide) ?_
  refine pg1_newa (pc := 7) (N := 60) hC h0 0 (by show ¬ (0 = 1); decide) dX1_init_7 0 rfl rfl (Or.inl rfl) (List.mem_of_getElem? (i := 4) rfl) rfl (by decide) ⟨Nat.le_of_ble_eq_true rfl, Nat.le_of_ble_eq_true rfl⟩ (fun q1 L1 f1 h1 => ?_)
  refine pg1_put (pc := 9) (ty := tyX1 0) (fs := [.null, .int 0]) hC h1 rfl dX1_init_9 0 miX1_init_X1 tyX1 tyX1_ok nmX1 (List.mem_of_getElem? (i := 5) rfl) rfl (by decide) rfl rfl rfl (tyX1_ok 0 (by decide)) rfl rfl (Nat.le_of_ble_eq_true rfl) (fun f2 h2 => ?_)
  refine pg_aload_n (pc := 12) hC dX1_init_12 0 rfl rfl ?_
  refine pg_iconst (pc := 13) (v := 0) hC dX1_init_13 (by decide) ?_
  refine pg1_put (pc := 14) (ty := tyX1 1) (fs := [.ref (q1), .int 0]) hC h2 rfl dX1_init_14 1 miX1_init_X1 tyX1 tyX1_ok nmX1 (List.mem_of_getElem? (i := 6) rfl) rfl (by decide) rfl rfl rfl (tyX1_ok 1 (by decide)) rfl rfl (Nat.le_of_ble_eq_true rfl) (fun f3 h3 => ?_)
  exact pg_vret (pc := 17) hC dX1_init_17 rfl ⟨_, p1_to h3 (fun k hk => by have hk : k < 2 := hk; show k = 0 ∨ k = 1; omega) (show 1 < 2 by decide) (fun k hk => by have hk : k < 2 := hk; rcases (show k = 0 ∨ k = 1 by omega) with rfl | rfl <;> rfl)⟩
end
section
abbrev rmX3_init : Room := { frames := 2, cells := 13, slots := 231, locals := 61 }
theorem miX3_init_X3 : ∀ w ∈ wsX30, w ∈ wsX3_init := fun _ h => List.mem_cons_of_mem _ (List.mem_append_right _ h)
set_option maxHeartbeats 8000000 in
set_option maxRecDepth 20000 in
theorem cX3_init_c (l : Launch) {κ : pv_Kt} {L : List Nat} {f : Nat → va_E} {a : Nat} (hL : a ∈ L) (hf : f a = .inr (3, [.null, .int 0, .null, .null, .null, .null, .null, .null, .null, .null, .null, .null, .null, .null, .int 0])) : pv_Mv l κ yX3_init wsX3_init rmX3_init L f [.ref a] 13 231 (pv_Wn 1 L f a (fun k => k < 14) (fun xs => pS_E κ xs (zS 10 10))) := by
  refine pv_startV (cc := cX3_init) (maxL := 2) (ret := none) (by decide) rfl (Nat.le_of_ble_eq_true rfl) (fun A0 P0 E0 S0 M0 a0 B0 T0 C0 hC => ?_)
  refine pg_sub (vs' := [(0, .ref a)]) [0] rfl ?_
  have h0 := p1_0 1 hL hf
  refine pg_aload_n (pc := 0) hC dX3_init_0 0 rfl rfl ?_
  refine pg_objInit (pc := 1) hC dX3_init_1 (List.mem_of_getElem? (i := 1) rfl) (List.mem_of_getElem? (i := 2) rfl) (List.mem_of_getElem? (i := 3) rfl) (Nat.le_of_ble_eq_true rfl) (Nat.le_of_ble_eq_true rfl) ?_
  refine pg_aload_n (pc := 4) hC dX3_init_4 0 rfl rfl ?_
  refine pg_getsN (pc := 5) hC dX3_init_5 hC.2.2.2.2.2.2.2.2.2.1.1.1 hC.2.2.2.2.2.2.2.2.2.1.2.1.2.2.2.2.2 ?_
  refine pg_tlen (pc := 8) (v := 5) hC dX3_init_8 hC.2.2.2.2.2.2.2.2.2.1.1.1 (by decide) ?_
  refine pg1_newa (pc := 9) (N := 5) hC h0 0 (by show ¬ (0 = 1); decide) dX3_init_9 1 rfl rfl (Or.inr (Or.inl rfl)) (List.mem_of_getElem? (i := 4) rfl) rfl (by decide) ⟨Nat.le_of_ble_eq_true rfl, Nat.le_of_ble_eq_true rfl⟩ (fun q1 L1 f1 h1 => ?_)
  refine pg1_put (pc := 11) (ty := tyX3 0) (fs := [.null, .int 0, .null, .null, .null, .null, .null, .null, .null, .null, .null, .null, .null, .null, .int 0]) hC h1 rfl dX3_init_11 0 miX3_init_X3 tyX3 tyX3_ok nmX3 (List.mem_of_getElem? (i := 5) rfl) rfl (by decide) rfl rfl rfl (tyX3_ok 0 (by decide)) rfl rfl (Nat.le_of_ble_eq_true rfl) (fun f2 h2 => ?_)
  refine pg_aload_n (pc := 14) hC dX3_init_14 0 rfl rfl ?_
  refine pg_iconst (pc := 15) (v := 0) hC dX3_init_15 (by decide) ?_
  refine pg1_put (pc := 16) (ty := tyX3 1) (fs := [.ref (q1), .int 0, .null, .null, .null, .null, .null, .null, .null, .null, .null, .null, .null, .null, .int 0]) hC h2 rfl dX3_init_16 1 miX3_init_X3 tyX3 tyX3_ok nmX3 (List.mem_of_getElem? (i := 6) rfl) rfl (by decide) rfl rfl rfl (tyX3_ok 1 (by decide)) rfl rfl (Nat.le_of_ble_eq_true rfl) (fun f3 h3 => ?_)
  refine pg_aload_n (pc := 19) hC dX3_init_19 0 rfl rfl ?_
  refine pg_bipush (pc := 20) (v := 12) hC dX3_init_20 (by decide) ?_
  refine pg1_newa (pc := 22) (N := 12) hC h3 2 (by show ¬ (2 = 0 ∨ 2 = 1); decide) dX3_init_22 1 rfl rfl (Or.inr (Or.inl rfl)) (List.mem_of_getElem? (i := 4) rfl) rfl (by decide) ⟨Nat.le_of_ble_eq_true rfl, Nat.le_of_ble_eq_true rfl⟩ (fun q4 L4 f4 h4 => ?_)
  refine pg1_put (pc := 24) (ty := tyX3 2) (fs := [.ref (q1), .int 0, .null, .null, .null, .null, .null, .null, .null, .null, .null, .null, .null, .null, .int 0]) hC h4 rfl dX3_init_24 2 miX3_init_X3 tyX3 tyX3_ok nmX3 (List.mem_of_getElem? (i := 7) rfl) rfl (by decide) rfl rfl rfl (tyX3_ok 2 (by decide)) rfl rfl (Nat.le_of_ble_eq_true rfl) (fun f5 h5 => ?_)
  refine pg_aload_n (pc := 27) hC dX3_init_27 0 rfl rfl ?_
  refine pg_bipush (pc := 28) (v := 12) hC dX3_init_28 (by decide) ?_
  refine pg1_newa (pc := 30) (N := 12) hC h5 3 (by show ¬ (3 = 2 ∨ 3 = 0 ∨ 3 = 1); decide) dX3_init_30 1 rfl rfl (Or.inr (Or.inl rfl)) (List.mem_of_getElem? (i := 4) rfl) rfl (by decide) ⟨Nat.le_of_ble_eq_true rfl, Nat.le_of_ble_eq_true rfl⟩ (fun q6 L6 f6 h6 => ?_)
  refine pg1_put (pc := 32) (ty := tyX3 3) (fs := [.ref (q1), .int 0, .ref (q4), .null, .null, .null, .null, .null, .null, .null, .null, .null, .null, .null, .int 0]) hC h6 rfl dX3_init_32 3 miX3_init_X3 tyX3 tyX3_ok nmX3 (List.mem_of_getElem? (i := 8) rfl) rfl (by decide) rfl rfl rfl (tyX3_ok 3 (by decide)) rfl rfl (Nat.le_of_ble_eq_true rfl) (fun f7 h7 => ?_)
  refine pg_aload_n (pc := 35) hC dX3_init_35 0 rfl rfl ?_
  refine pg_bipush (pc := 36) (v := 12) hC dX3_init_36 (by decide) ?_
  refine pg1_newa (pc := 38) (N := 12) hC h7 4 (by show ¬ (4 = 3 ∨ 4 = 2 ∨ 4 = 0 ∨ 4 = 1); decide) dX3_init_38 1 rfl rfl (Or.inr (Or.inl rfl)) (List.mem_of_getElem? (i := 4) rfl) rfl (by decide) ⟨Nat.le_of_ble_eq_true rfl, Nat.le_of_ble_eq_true rfl⟩ (fun q8 L8 f8 h8 => ?_)
  refine pg1_put (pc := 40) (ty := tyX3 4) (fs := [.ref (q1), .int 0, .ref (q4), .ref (q6), .null, .null, .null, .null, .null, .null, .null, .null, .null, .null, .int 0]) hC h8 rfl dX3_init_40 4 miX3_init_X3 tyX3 tyX3_ok nmX3 (List.mem_of_getElem? (i := 9) rfl) rfl (by decide) rfl rfl rfl (tyX3_ok 4 (by decide)) rfl rfl (Nat.le_of_ble_eq_true rfl) (fun f9 h9 => ?_)
  refine pg_aload_n (pc := 43) hC dX3_init_43 0 rfl rfl ?_
  refine pg_bipush (pc := 44) (v := 120) hC dX3_init_44 (by decide) ?_
  refine pg1_newa (pc := 46) (N := 120) hC h9 5 (by show ¬ (5 = 4 ∨ 5 = 3 ∨ 5 = 2 ∨ 5 = 0 ∨ 5 = 1); decide) dX3_init_46 1 rfl rfl (Or.inr (Or.inl rfl)) (List.mem_of_getElem? (i := 4) rfl) rfl (by decide) ⟨Nat.le_of_ble_eq_true rfl, Nat.le_of_ble_eq_true rfl⟩ (fun q10 L10 f10 h10 => ?_)
  refine pg1_put (pc := 48) (ty := tyX3 5) (fs := [.ref (q1), .int 0, .ref (q4), .ref (q6), .ref (q8), .null, .null, .null, .null, .null, .null, .null, .null, .null, .int 0]) hC h10 rfl dX3_init_48 5 miX3_init_X3 tyX3 tyX3_ok nmX3 (List.mem_of_getElem? (i := 10) rfl) rfl (by decide) rfl rfl rfl (tyX3_ok 5 (by decide)) rfl rfl (Nat.le_of_ble_eq_true rfl) (fun f11 h11 => ?_)
  refine pg_aload_n (pc := 51) hC dX3_init_51 0 rfl rfl ?_
  refine pg_bipush (pc := 52) (v := 10) hC dX3_init_52 (by decide) ?_
  refine pg1_newa (pc := 54) (N := 10) hC h11 6 (by show ¬ (6 = 5 ∨ 6 = 4 ∨ 6 = 3 ∨ 6 = 2 ∨ 6 = 0 ∨ 6 = 1); decide) dX3_init_54 1 rfl rfl (Or.inr (Or.inl rfl)) (List.mem_of_getElem? (i := 4) rfl) rfl (by decide) ⟨Nat.le_of_ble_eq_true rfl, Nat.le_of_ble_eq_true rfl⟩ (fun q12 L12 f12 h12 => ?_)
  refine pg1_put (pc := 56) (ty := tyX3 6) (fs := [.ref (q1), .int 0, .ref (q4), .ref (q6), .ref (q8), .ref (q10), .null, .null, .null, .null, .null, .null, .null, .null, .int 0]) hC h12 rfl dX3_init_56 6 miX3_init_X3 tyX3 tyX3_ok nmX3 (List.mem_of_getElem? (i := 11) rfl) rfl (by decide) rfl rfl rfl (tyX3_ok 6 (by decide)) rfl rfl (Nat.le_of_ble_eq_true rfl) (fun f13 h13 => ?_)
  refine pg_aload_n (pc := 59) hC dX3_init_59 0 rfl rfl ?_
  refine pg_bipush (pc := 60) (v := 10) hC dX3_init_60 (by decide) ?_
  refine pg1_newa (pc := 62) (N := 10) hC h13 7 (by show ¬ (7 = 6 ∨ 7 = 5 ∨ 7 = 4 ∨ 7 = 3 ∨ 7 = 2 ∨ 7 = 0 ∨ 7 = 1); decide) dX3_init_62 1 rfl rfl (Or.inr (Or.inl rfl)) (List.mem_of_getElem? (i := 4) rfl) rfl (by decide) ⟨Nat.le_of_ble_eq_true rfl, Nat.le_of_ble_eq_true rfl⟩ (fun q14 L14 f14 h14 => ?_)
  refine pg1_put (pc := 64) (ty := tyX3 7) (fs := [.ref (q1), .int 0, .ref (q4), .ref (q6), .ref (q8), .ref (q10), .ref (q12), .null, .null, .null, .null, .null, .null, .null, .int 0]) hC h14 rfl dX3_init_64 7 miX3_init_X3 tyX3 tyX3_ok nmX3 (List.mem_of_getElem? (i := 12) rfl) rfl (by decide) rfl rfl rfl (tyX3_ok 7 (by decide)) rfl rfl (Nat.le_of_ble_eq_true rfl) (fun f15 h15 => ?_)
  refine pg_aload_n (pc := 67) hC dX3_init_67 0 rfl rfl ?_
  refine pg_bipush (pc := 68) (v := 10) hC dX3_init_68 (by decide) ?_
  refine pg1_newa (pc := 70) (N := 10) hC h15 8 (by show ¬ (8 = 7 ∨ 8 = 6 ∨ 8 = 5 ∨ 8 = 4 ∨ 8 = 3 ∨ 8 = 2 ∨ 8 = 0 ∨ 8 = 1); decide) dX3_init_70 1 rfl rfl (Or.inr (Or.inl rfl)) (List.mem_of_getElem? (i := 4) rfl) rfl (by decide) ⟨Nat.le_of_ble_eq_true rfl, Nat.le_of_ble_eq_true rfl⟩ (fun q16 L16 f16 h16 => ?_)
  refine pg1_put (pc := 72) (ty := tyX3 8) (fs := [.ref (q1), .int 0, .ref (q4), .ref (q6), .ref (q8), .ref (q10), .ref (q12), .ref (q14), .null, .null, .null, .null, .null, .null, .int 0]) hC h16 rfl dX3_init_72 8 miX3_init_X3 tyX3 tyX3_ok nmX3 (List.mem_of_getElem? (i := 13) rfl) rfl (by decide) rfl rfl rfl (tyX3_ok 8 (by decide)) rfl rfl (Nat.le_of_ble_eq_true rfl) (fun f17 h17 => ?_)
  refine pg_aload_n (pc := 75) hC dX3_init_75 0 rfl rfl ?_
  refine pg_bipush (pc := 76) (v := 10) hC dX3_init_76 (by decide) ?_
  refine pg1_newa (pc := 78) (N := 10) hC h17 9 (by show ¬ (9 = 8 ∨ 9 = 7 ∨ 9 = 6 ∨ 9 = 5 ∨ 9 = 4 ∨ 9 = 3 ∨ 9 = 2 ∨ 9 = 0 ∨ 9 = 1); decide) dX3_init_78 1 rfl rfl (Or.inr (Or.inl rfl)) (List.mem_of_getElem? (i := 4) rfl) rfl (by decide) ⟨Nat.le_of_ble_eq_true rfl, Nat.le_of_ble_eq_true rfl⟩ (fun q18 L18 f18 h18 => ?_)
  refine pg1_put (pc := 80) (ty := tyX3 9) (fs := [.ref (q1), .int 0, .ref (q4), .ref (q6), .ref (q8), .ref (q10), .ref (q12), .ref (q14), .ref (q16), .null, .null, .null, .null, .null, .int 0]) hC h18 rfl dX3_init_80 9 miX3_init_X3 tyX3 tyX3_ok nmX3 (List.mem_of_getElem? (i := 14) rfl) rfl (by decide) rfl rfl rfl (tyX3_ok 9 (by decide)) rfl rfl (Nat.le_of_ble_eq_true rfl) (fun f19 h19 => ?_)
  refine pg_aload_n (pc := 83) hC dX3_init_83 0 rfl rfl ?_
  refine pg_bipush (pc := 84) (v := 10) hC dX3_init_84 (by decide) ?_
  refine pg1_newa (pc := 86) (N := 10) hC h19 10 (by show ¬ (10 = 9 ∨ 10 = 8 ∨ 10 = 7 ∨ 10 = 6 ∨ 10 = 5 ∨ 10 = 4 ∨ 10 = 3 ∨ 10 = 2 ∨ 10 = 0 ∨ 10 = 1); decide) dX3_init_86 1 rfl rfl (Or.inr (Or.inl rfl)) (List.mem_of_getElem? (i := 4) rfl) rfl (by decide) ⟨Nat.le_of_ble_eq_true rfl, Nat.le_of_ble_eq_true rfl⟩ (fun q20 L20 f20 h20 => ?_)
  refine pg1_put (pc := 88) (ty := tyX3 10) (fs := [.ref (q1), .int 0, .ref (q4), .ref (q6), .ref (q8), .ref (q10), .ref (q12), .ref (q14), .ref (q16), .ref (q18), .null, .null, .null, .null, .int 0]) hC h20 rfl dX3_init_88 10 miX3_init_X3 tyX3 tyX3_ok nmX3 (List.mem_of_getElem? (i := 15) rfl) rfl (by decide) rfl rfl rfl (tyX3_ok 10 (by decide)) rfl rfl (Nat.le_of_ble_eq_true rfl) (fun f21 h21 => ?_)
  refine pg_aload_n (pc := 91) hC dX3_init_91 0 rfl rfl ?_
  refine pg_bipush (pc := 92) (v := 10) hC dX3_init_92 (by decide) ?_
  refine pg1_newa (pc := 94) (N := 10) hC h21 11 (by show ¬ (11 = 10 ∨ 11 = 9 ∨ 11 = 8 ∨ 11 = 7 ∨ 11 = 6 ∨ 11 = 5 ∨ 11 = 4 ∨ 11 = 3 ∨ 11 = 2 ∨ 11 = 0 ∨ 11 = 1); decide) dX3_init_94 1 rfl rfl (Or.inr (Or.inl rfl)) (List.mem_of_getElem? (i := 4) rfl) rfl (by decide) ⟨Nat.le_of_ble_eq_true rfl, Nat.le_of_ble_eq_true rfl⟩ (fun q22 L22 f22 h22 => ?_)
  refine pg1_put (pc := 96) (ty := tyX3 11) (fs := [.ref (q1), .int 0, .ref (q4), .ref (q6), .ref (q8), .ref (q10), .ref (q12), .ref (q14), .ref (q16), .ref (q18), .ref (q20), .null, .null, .null, .int 0]) hC h22 rfl dX3_init_96 11 miX3_init_X3 tyX3 tyX3_ok nmX3 (List.mem_of_getElem? (i := 16) rfl) rfl (by decide) rfl rfl rfl (tyX3_ok 11 (by decide)) rfl rfl (Nat.le_of_ble_eq_true rfl) (fun f23 h23 => ?_)
  refine pg_aload_n (pc := 99) hC dX3_init_99 0 rfl rfl ?_
  refine pg_iconst (pc := 100) (v := 5) hC dX3_init_100 (by decide) ?_
  refine pg1_newa (pc := 101) (N := 5) hC h23 12 (by show ¬ (12 = 11 ∨ 12 = 10 ∨ 12 = 9 ∨ 12 = 8 ∨ 12 = 7 ∨ 12 = 6 ∨ 12 = 5 ∨ 12 = 4 ∨ 12 = 3 ∨ 12 = 2 ∨ 12 = 0 ∨ 12 = 1); decide) dX3_init_101 1 rfl rfl (Or.inr (Or.inl rfl)) (List.mem_of_getElem? (i := 4) rfl) rfl (by decide) ⟨Nat.le_of_ble_eq_true rfl, Nat.le_of_ble_eq_true rfl⟩ (fun q24 L24 f24 h24 => ?_)
  refine pg1_put (pc := 103) (ty := tyX3 12) (fs := [.ref (q1), .int 0, .ref (q4), .ref (q6), .ref (q8), .ref (q10), .ref (q12), .ref (q14), .ref (q16), .ref (q18), .ref (q20), .ref (q22), .null, .null, .int 0]) hC h24 rfl dX3_init_103 12 miX3_init_X3 tyX3 tyX3_ok nmX3 (List.mem_of_getElem? (i := 17) rfl) rfl (by decide) rfl rfl rfl (tyX3_ok 12 (by decide)) rfl rfl (Nat.le_of_ble_eq_true rfl) (fun f25 h25 => ?_)
  refine pg_aload_n (pc := 106) hC dX3_init_106 0 rfl rfl ?_
  refine pg_iconst (pc := 107) (v := 5) hC dX3_init_107 (by decide) ?_
  refine pg1_newa (pc := 108) (N := 5) hC h25 13 (by show ¬ (13 = 12 ∨ 13 = 11 ∨ 13 = 10 ∨ 13 = 9 ∨ 13 = 8 ∨ 13 = 7 ∨ 13 = 6 ∨ 13 = 5 ∨ 13 = 4 ∨ 13 = 3 ∨ 13 = 2 ∨ 13 = 0 ∨ 13 = 1); decide) dX3_init_108 1 rfl rfl (Or.inr (Or.inl rfl)) (List.mem_of_getElem? (i := 4) rfl) rfl (by decide) ⟨Nat.le_of_ble_eq_true rfl, Nat.le_of_ble_eq_true rfl⟩ (fun q26 L26 f26 h26 => ?_)
  refine pg1_put (pc := 110) (ty := tyX3 13) (fs := [.ref (q1), .int 0, .ref (q4), .ref (q6), .ref (q8), .ref (q10), .ref (q12), .ref (q14), .ref (q16), .ref (q18), .ref (q20), .ref (q22), .ref (q24), .null, .int 0]) hC h26 rfl dX3_init_110 13 miX3_init_X3 tyX3 tyX3_ok nmX3 (List.mem_of_getElem? (i := 18) rfl) rfl (by decide) rfl rfl rfl (tyX3_ok 13 (by decide)) rfl rfl (Nat.le_of_ble_eq_true rfl) (fun f27 h27 => ?_)
  refine pg_aload_n (pc := 113) hC dX3_init_113 0 rfl rfl ?_
  refine pg_iconst (pc := 114) (v := 0) hC dX3_init_114 (by decide) ?_
  refine pg1_put (pc := 115) (ty := tyX3 14) (fs := [.ref (q1), .int 0, .ref (q4), .ref (q6), .ref (q8), .ref (q10), .ref (q12), .ref (q14), .ref (q16), .ref (q18), .ref (q20), .ref (q22), .ref (q24), .ref (q26), .int 0]) hC h27 rfl dX3_init_115 14 miX3_init_X3 tyX3 tyX3_ok nmX3 (List.mem_of_getElem? (i := 19) rfl) rfl (by decide) rfl rfl rfl (tyX3_ok 14 (by decide)) rfl rfl (Nat.le_of_ble_eq_true rfl) (fun f28 h28 => ?_)
  refine pg_getsN (pc := 118) hC dX3_init_118 hC.2.2.2.2.2.2.2.2.2.1.1.1 hC.2.2.2.2.2.2.2.2.2.1.2.1.2.2.2.2.2 ?_
  refine pg_aload_n (pc := 121) hC dX3_init_121 0 rfl rfl ?_
  refine pg1_get (pc := 122) (v := .ref (q1)) (fs := [.ref (q1), .int 0, .ref (q4), .ref (q6), .ref (q8), .ref (q10), .ref (q12), .ref (q14), .ref (q16), .ref (q18), .ref (q20), .ref (q22), .ref (q24), .ref (q26), .int 0]) hC h28 rfl dX3_init_122 0 miX3_init_X3 (List.mem_of_getElem? (i := 5) rfl) rfl (by decide) rfl rfl ?_
  refine pg_callSNx (pc := 125) (As := [.ref (κ.2.2 0), .ref q1]) (rest := []) hC dX3_init_125 (cX4_copyt_c l (a := q1) (r1 := fun _ => 0) (p1_at h28 (Or.inr (Or.inr (Or.inr (Or.inr (Or.inr (Or.inr (Or.inr (Or.inr (Or.inr (Or.inr (Or.inr (Or.inr (Or.inl rfl)))))))))))))).1 (p1_at h28 (Or.inr (Or.inr (Or.inr (Or.inr (Or.inr (Or.inr (Or.inr (Or.inr (Or.inr (Or.inr (Or.inr (Or.inr (Or.inl rfl)))))))))))))).2) ⟨va_cnB 2 hC.2.2.2.2.1 gX3_init_X4_copy_n61 rfl rfl rfl hC.2.2.2.2.2.2.2.2.2.1.2.1.2.2.2.1 (hC.2.2.2.2.1 _ (List.mem_of_getElem? (i := 21) rfl)) (by decide +kernel) ⟨Nat.le_of_ble_eq_true rfl, Nat.le_of_ble_eq_true rfl⟩, hC.2.2.2.2.1 _ (List.mem_of_getElem? (i := 20) rfl), trivial⟩ rfl rfl (Nat.zero_le _) (Nat.le_of_ble_eq_true rfl) (Nat.le_of_ble_eq_true rfl) ?_
  have hcp := p1_set h28 (k := 0) (q := q1) (Or.inr (Or.inr (Or.inr (Or.inr (Or.inr (Or.inr (Or.inr (Or.inr (Or.inr (Or.inr (Or.inr (Or.inr (Or.inl rfl))))))))))))) rfl (.inl (κ.2.1 1, 5, .inl (va_cpy pv_t0 (fun _ => 0) 0 0 5)))
  obtain ⟨fz, hfz⟩ : ∃ z, z = va_up f28 q1 (.inl (κ.2.1 1, 5, .inl (va_cpy pv_t0 (fun _ => 0) 0 0 5))) := ⟨_, rfl⟩
  rw [← hfz] at hcp ⊢
  refine pg_iconst (pc := 128) (v := 0) hC dX3_init_128 (by decide) ?_
  refine pg_istore_n (pc := 129) (vs' := [(1, .int 0), (0, .ref (a))]) hC dX3_init_129 rfl (by decide) rfl ?_
  refine pg_sub (vs' := [(0, .ref (a)), (1, .int 0)]) [1, 0] rfl ?_
  obtain ⟨X, hX⟩ : ∃ z : Nat → Nat, z = (va_up (va_up (va_up (va_up (va_up (va_up (va_up (va_up (va_up (va_up (va_up (va_up (va_up (fun _ => a) 0 q1) 2 q4) 3 q6) 4 q8) 5 q10) 6 q12) 7 q14) 8 q16) 9 q18) 10 q20) 11 q22) 12 q24) 13 q26) := ⟨_, rfl⟩
  have hz : p1 1 X L f a L26 fz (fun k => k < 14) (pS_E κ X (zS 0 0)) := by
    rw [hX]
    refine p1_to hcp (fun k hk => ?_) (show 1 < 14 by decide) (fun k hk => ?_)
    · have hk : k < 14 := hk
      show k = 13 ∨ k = 12 ∨ k = 11 ∨ k = 10 ∨ k = 9 ∨ k = 8 ∨ k = 7 ∨ k = 6 ∨ k = 5 ∨ k = 4 ∨ k = 3 ∨ k = 2 ∨ k = 0 ∨ k = 1
      omega
    · have hk : k < 14 := hk
      rcases (show k = 0 ∨ k = 1 ∨ k = 2 ∨ k = 3 ∨ k = 4 ∨ k = 5 ∨ k = 6 ∨ k = 7 ∨ k = 8 ∨ k = 9 ∨ k = 10 ∨ k = 11 ∨ k = 12 ∨ k = 13 by omega) with rfl | rfl | rfl | rfl | rfl | rfl | rfl | rfl | rfl | rfl | rfl | rfl | rfl | rfl <;> rfl
  refine pg_loop (pc := 130) (σ := Nat × (Nat → va_E)) (I := fun q => match q with | (k, g) => k ≤ 10 ∧ p1 1 X L f a L26 g (fun c => c < 14) (pS_E κ X (zS k k))) (μ := fun q => match q with | (k, _) => 10 - k) (VS := fun q => match q with | (k, _) => [(0, .ref a), (1, .int (nI k))]) (FF := fun q => match q with | (_, g) => g) ?_ (0, fz) ⟨by decide, hz⟩
  intro q hI ih
  obtain ⟨k, g⟩ := q
  dsimp only at hI ih ⊢
  obtain ⟨hk, hg⟩ := hI
  refine pg_iload_n (pc := 130) hC dX3_init_130 1 rfl rfl ?_
  refine pg_bipush (pc := 131) (v := 10) hC dX3_init_131 (by decide) ?_
  refine pg_icmp_geN (pc := 133) hC 157 dX3_init_133 (by decide) (k) (10) rfl rfl (by omega) (by omega) (fun c1 => ?_) (fun c1 => ?_)
  · skip
    exact pg_vret (pc := 157) hC dX3_init_157 rfl ⟨X, by rw [show (10 : Nat) = k by omega]; exact hg⟩
  · skip
    refine pg_aload_n (pc := 136) hC dX3_init_136 0 rfl rfl ?_
    refine pg1_get (pc := 137) (v := .ref (X 6)) hC hg rfl dX3_init_137 6 miX3_init_X3 (List.mem_of_getElem? (i := 11) rfl) rfl (by decide) rfl rfl ?_
    refine pg_iload_n (pc := 140) hC dX3_init_140 1 rfl rfl ?_
    refine pg_iconst (pc := 141) (v := 5) hC dX3_init_141 (by decide) ?_
    refine pg1_iast (pc := 142) (n := 10) hC hg 6 (show 6 < 14 by decide) rfl rfl dX3_init_142 k rfl (by omega) (by decide) (fun g1 hq142 => ?_)
    have hg3 : p1 1 X L f a L26 g1 (fun c => c < 14) (pS_E κ X (zS (k + 1) k)) := by rw [← pS_E_up6]; exact hq142
    refine pg_aload_n (pc := 143) hC dX3_init_143 0 rfl rfl ?_
    refine pg1_get (pc := 144) (v := .ref (X 11)) hC hg3 rfl dX3_init_144 11 miX3_init_X3 (List.mem_of_getElem? (i := 16) rfl) rfl (by decide) rfl rfl ?_
    refine pg_iload_n (pc := 147) hC dX3_init_147 1 rfl rfl ?_
    refine pg_bipush (pc := 148) (v := (-6)) hC dX3_init_148 (by decide) ?_
    refine pg1_iast (pc := 150) (n := 10) hC hg3 11 (show 11 < 14 by decide) rfl rfl dX3_init_150 k rfl (by omega) (by decide) (fun g2 hq150 => ?_)
    have hg4 : p1 1 X L f a L26 g2 (fun c => c < 14) (pS_E κ X (zS (k + 1) (k + 1))) := by rw [← pS_E_up11]; exact hq150
    refine pg_iinc (pc := 151) (v := nI (k + 1)) (vs' := [(1, .int (nI (k + 1))), (0, .ref (a))]) hC dX3_init_151 1 rfl (nI_add (k) 1) (by decide) rfl ?_
    refine pg_goto (pc := 154) hC 130 dX3_init_154 (by decide) ?_
    refine pg_sub (vs' := [(0, .ref (a)), (1, .int (nI (k + 1)))]) [1, 0] rfl ?_
    exact ih (k + 1, g2) ⟨by omega, hg4⟩ (show 10 - (k + 1) < 10 - k by omega)
end
section
theorem pS_E_congr {κ : pv_Kt} {xs ys : Nat → Nat} {z : Nat → Nat → Int32} (h : ∀ m, m < 14 → xs m = ys m) (k : Nat) : pS_E κ xs z k = pS_E κ ys z k := by
  unfold pS_E pv_so
  rw [h 0 (by decide), h 2 (by decide), h 3 (by decide), h 4 (by decide), h 5 (by decide), h 6 (by decide), h 7 (by decide), h 8 (by decide), h 9 (by decide), h 10 (by decide), h 11 (by decide), h 12 (by decide), h 13 (by decide)]
/-- the history's codes when i of its schools are made, and their contents -/
abbrev SH (i : Nat) : Nat → Prop := fun c => c = 192 ∨ c = 193 ∨ (16 ≤ c ∧ c < 16 * (i + 1) ∧ c % 16 < 14)
def rowH (i : Nat) (xs : Nat → Nat) : Nat → Option Nat := fun j => if j < i then some (xs (16 * (1 + j) + 1)) else none
def EH (κ : pv_Kt) (i : Nat) (xs : Nat → Nat) (c : Nat) : va_E := if c = 192 then .inr (0, [.ref (xs 193), .int 0, .int 0]) else if c = 193 then .inl (κ.2.1 3, 6, .inr (.inr (.inr (.inr (rowH i xs))))) else pS_E κ (fun k => xs (16 * (c / 16) + k)) (zS 10 10) (c % 16)
/-- a school comes in under the codes B to B + 13 -/
theorem p1_school {κ : pv_Kt} {o : Nat} {X : Nat → Nat} {L0 : List Nat} {f0 : Nat → va_E} {a : Nat} {L1 : List Nat} {f1 : Nat → va_E} {S : Nat → Prop} {E : Nat → va_E} {e : va_E} {q B : Nat} {M2 : List Nat} {g2 : Nat → va_E} (h : p1 o (va_up X (B + 1) q) L0 f0 a L1 f1 (fun c => c = B + 1 ∨ S c) (va_up E (B + 1) e)) (hne : B + 1 ≠ o) (hS : ∀ d, d < 14 → ¬ S (B + d)) (hy : pv_Wn 1 L1 f1 q (fun k => k < 14) (fun xs => pS_E κ xs (zS 10 10)) (M2, g2)) : ∃ X2 : Nat → Nat, (∀ c, S c → X2 c = X c) ∧ X2 (B + 1) = q ∧ p1 o X2 L0 f0 a M2 g2 (fun c => S c ∨ (B ≤ c ∧ c - B < 14)) (fun c => if B ≤ c ∧ c - B < 14 then pS_E κ (fun k => X2 (B + k)) (zS 10 10) (c - B) else E c) := by
  obtain ⟨ys, hy⟩ := hy
  have hy2 : p1 1 ys L1 f1 (va_up X (B + 1) q (B + 1)) M2 g2 (fun k => k < 14) (pS_E κ ys (zS 10 10)) := by rw [va_up_e]; exact hy
  have hin := p1_in h B (Or.inl rfl) hne hy2 (fun d hd hd1 z => z.elim (fun w => hd1 (by omega)) (hS d hd))
  have hoS : S o := h.2.2.2.2.1.resolve_left (fun z => hne z.symm)
  refine ⟨_, fun c hc => ?_, ?_, p1_to hin (fun c hc => ?_) (Or.inl hoS) (fun c hc => ?_)⟩
  · have hn : ¬ (B ≤ c ∧ c - B < 14) := fun z => hS (c - B) z.2 (by rw [show B + (c - B) = c by omega]; exact hc)
    have hn1 : c ≠ B + 1 := fun z => hn (by omega)
    show (if B ≤ c ∧ c - B < 14 then ys (c - B) else va_up X (B + 1) q c) = X c
    rw [if_neg hn, va_up_ne _ _ hn1]
  · show (if B ≤ B + 1 ∧ B + 1 - B < 14 then ys (B + 1 - B) else va_up X (B + 1) q (B + 1)) = q
    rw [if_pos (by omega), show B + 1 - B = 1 by omega]
    exact hy.2.2.2.2.2.1
  · exact hc.elim (fun z => Or.inl (Or.inr z)) Or.inr
  · show (if B ≤ c ∧ c - B < 14 then _ else _) = (if B ≤ c ∧ c - B < 14 then pS_E κ ys (zS 10 10) (c - B) else va_up E (B + 1) e c)
    by_cases z : B ≤ c ∧ c - B < 14
    · rw [if_pos z, if_pos z]
      refine pS_E_congr (fun m hm => ?_) _
      show (if B ≤ B + m ∧ B + m - B < 14 then ys (B + m - B) else va_up X (B + 1) q (B + m)) = ys m
      rw [if_pos (by omega), show B + m - B = m by omega]
    · rw [if_neg z, if_neg z, va_up_ne _ _ (fun w => z (by omega))]
/-- one round of the history's loop -/
theorem pH_step {κ : pv_Kt} {X : Nat → Nat} {L : List Nat} {f : Nat → va_E} {a i : Nat} {M2 : List Nat} {g3 : Nat → va_E} {X2 : Nat → Nat} {q : Nat} (hi : i < 6) (hX : ∀ c, SH i c → X2 c = X c) (hq : X2 (16 * (1 + i) + 1) = q)
    (h : p1 192 X2 L f a M2 g3 (fun c => SH i c ∨ (16 * (1 + i) ≤ c ∧ c - 16 * (1 + i) < 14)) (va_up (fun c => if 16 * (1 + i) ≤ c ∧ c - 16 * (1 + i) < 14 then pS_E κ (fun k => X2 (16 * (1 + i) + k)) (zS 10 10) (c - 16 * (1 + i)) else EH κ i X c) 193 (.inl (κ.2.1 3, 6, .inr (.inr (.inr (.inr (va_up (rowH i X) i (some q)))))))) ) : p1 192 X2 L f a M2 g3 (SH (i + 1)) (EH κ (i + 1) X2) := by
  refine p1_to h (fun c hc => ?_) (Or.inl rfl) (fun c hc => ?_)
  · have hc : c = 192 ∨ c = 193 ∨ (16 ≤ c ∧ c < 16 * (i + 1 + 1) ∧ c % 16 < 14) := hc
    show (c = 192 ∨ c = 193 ∨ (16 ≤ c ∧ c < 16 * (i + 1) ∧ c % 16 < 14)) ∨ _
    omega
  · have hc : c = 192 ∨ c = 193 ∨ (16 ≤ c ∧ c < 16 * (i + 1 + 1) ∧ c % 16 < 14) := hc
    by_cases c193 : c = 193
    · subst c193
      rw [va_up_e]
      show (Sum.inl (κ.2.1 3, 6, .inr (.inr (.inr (.inr (rowH (i + 1) X2))))) : va_E) = _
      have e : rowH (i + 1) X2 = va_up (rowH i X) i (some q) := by
        funext j
        unfold rowH
        by_cases w : j = i
        · subst w
          rw [va_up_e, if_pos (by omega), hq]
        · rw [va_up_ne _ _ w]
          by_cases v : j < i
          · rw [if_pos (by omega), if_pos v, hX _ (Or.inr (Or.inr ⟨by omega, by omega, by omega⟩))]
          · rw [if_neg (by omega), if_neg v]
      rw [e]
    · rw [va_up_ne _ _ c193]
      by_cases c192 : c = 192
      · subst c192
        show _ = (if 16 * (1 + i) ≤ 192 ∧ 192 - 16 * (1 + i) < 14 then _ else EH κ i X 192)
        rw [if_neg (by omega)]
        show (Sum.inr (0, [.ref (X2 193), .int 0, .int 0]) : va_E) = .inr (0, [.ref (X 193), .int 0, .int 0])
        rw [hX 193 (Or.inr (Or.inl rfl))]
      · have hr := (hc.resolve_left c192).resolve_left c193
        show EH κ (i + 1) X2 c = (if 16 * (1 + i) ≤ c ∧ c - 16 * (1 + i) < 14 then pS_E κ (fun k => X2 (16 * (1 + i) + k)) (zS 10 10) (c - 16 * (1 + i)) else EH κ i X c)
        unfold EH
        rw [if_neg c192, if_neg c193, if_neg c192, if_neg c193]
        by_cases z : 16 * (1 + i) ≤ c ∧ c - 16 * (1 + i) < 14
        · rw [if_pos z, show c / 16 = 1 + i by omega, show c % 16 = c - 16 * (1 + i) by omega]
        · rw [if_neg z]
          exact pS_E_congr (fun m hm => hX _ (Or.inr (Or.inr ⟨by omega, by omega, by omega⟩))) _
end
section
abbrev rmX0_init : Room := { frames := 3, cells := 85, slots := 1482, locals := 82 }
theorem miX0_init_X0 : ∀ w ∈ wsX00, w ∈ wsX0_init := fun _ h => List.mem_cons_of_mem _ (List.mem_append_left _ (List.mem_append_right _ h))
theorem miX0_init_X3 : ∀ w ∈ wsX30, w ∈ wsX0_init := fun _ h => List.mem_cons_of_mem _ (List.mem_append_right _ h)
set_option maxHeartbeats 8000000 in
set_option maxRecDepth 20000 in
theorem cX0_init_c (l : Launch) {κ : pv_Kt} {L : List Nat} {f : Nat → va_E} {a : Nat} (hL : a ∈ L) (hf : f a = .inr (0, [.null, .int 0, .int 0])) : pv_Mv l κ yX0_init wsX0_init rmX0_init L f [.ref a] 85 1482 (pv_Wn 192 L f a (SH 6) (EH κ 6)) := by
  refine pv_startV (cc := cX0_init) (maxL := 2) (ret := none) (by decide) rfl (Nat.le_of_ble_eq_true rfl) (fun A0 P0 E0 S0 M0 a0 B0 T0 C0 hC => ?_)
  refine pg_sub (vs' := [(0, .ref a)]) [0] rfl ?_
  have h0 := p1_0 192 hL hf
  refine pg_aload_n (pc := 0) hC dX0_init_0 0 rfl rfl ?_
  refine pg_objInit (pc := 1) hC dX0_init_1 (List.mem_of_getElem? (i := 1) rfl) (List.mem_of_getElem? (i := 2) rfl) (List.mem_of_getElem? (i := 3) rfl) (Nat.le_of_ble_eq_true rfl) (Nat.le_of_ble_eq_true rfl) ?_
  refine pg_aload_n (pc := 4) hC dX0_init_4 0 rfl rfl ?_
  refine pg_bipush (pc := 5) (v := 6) hC dX0_init_5 (by decide) ?_
  refine pg1_newq (pc := 7) (N := 6) hC h0 193 (by show ¬ (193 = 192); decide) dX0_init_7 (List.mem_of_getElem? (i := 4) rfl) rfl (by decide) ⟨Nat.le_of_ble_eq_true rfl, Nat.le_of_ble_eq_true rfl⟩ (fun q1 L1 f1 h1 => ?_)
  refine pg1_put (pc := 10) (ty := tyX0 0) (fs := [.null, .int 0, .int 0]) hC h1 rfl dX0_init_10 0 miX0_init_X0 tyX0 tyX0_ok nmX0 (List.mem_of_getElem? (i := 5) rfl) rfl (by decide) rfl rfl rfl (tyX0_ok 0 (by decide)) rfl rfl (Nat.le_of_ble_eq_true rfl) (fun f2 h2 => ?_)
  refine pg_aload_n (pc := 13) hC dX0_init_13 0 rfl rfl ?_
  refine pg_iconst (pc := 14) (v := 0) hC dX0_init_14 (by decide) ?_
  refine pg1_put (pc := 15) (ty := tyX0 1) (fs := [.ref (q1), .int 0, .int 0]) hC h2 rfl dX0_init_15 1 miX0_init_X0 tyX0 tyX0_ok nmX0 (List.mem_of_getElem? (i := 6) rfl) rfl (by decide) rfl rfl rfl (tyX0_ok 1 (by decide)) rfl rfl (Nat.le_of_ble_eq_true rfl) (fun f3 h3 => ?_)
  refine pg_aload_n (pc := 18) hC dX0_init_18 0 rfl rfl ?_
  refine pg_iconst (pc := 19) (v := 0) hC dX0_init_19 (by decide) ?_
  refine pg1_put (pc := 20) (ty := tyX0 2) (fs := [.ref (q1), .int 0, .int 0]) hC h3 rfl dX0_init_20 2 miX0_init_X0 tyX0 tyX0_ok nmX0 (List.mem_of_getElem? (i := 7) rfl) rfl (by decide) rfl rfl rfl (tyX0_ok 2 (by decide)) rfl rfl (Nat.le_of_ble_eq_true rfl) (fun f4 h4 => ?_)
  refine pg_iconst (pc := 23) (v := 0) hC dX0_init_23 (by decide) ?_
  refine pg_istore_n (pc := 24) (vs' := [(1, .int 0), (0, .ref (a))]) hC dX0_init_24 rfl (by decide) rfl ?_
  refine pg_sub (vs' := [(0, .ref (a)), (1, .int 0)]) [1, 0] rfl ?_
  obtain ⟨X, hX⟩ : ∃ z : Nat → Nat, z = (va_up (fun _ => a) 193 q1) := ⟨_, rfl⟩
  have e0 : rowH 0 X = fun _ => none := funext (fun j => if_neg (Nat.not_lt_zero j))
  have hz : p1 192 X L f a L1 f4 (SH 0) (EH κ 0 X) := by
    have hh := h4
    rw [← hX] at hh
    refine p1_to hh (fun k hk => ?_) (Or.inl rfl) (fun k hk => ?_)
    · have hk : k = 192 ∨ k = 193 ∨ (16 ≤ k ∧ k < 16 * (0 + 1) ∧ k % 16 < 14) := hk
      show k = 193 ∨ k = 192
      omega
    · have hk : k = 192 ∨ k = 193 ∨ (16 ≤ k ∧ k < 16 * (0 + 1) ∧ k % 16 < 14) := hk
      rcases (show k = 192 ∨ k = 193 by omega) with rfl | rfl
      · rw [hX]; rfl
      · show (Sum.inl (κ.2.1 3, 6, .inr (.inr (.inr (.inr (rowH 0 X))))) : va_E) = _
        rw [e0]; rfl
  refine pg_loopN (pc := 25) (σ := Nat × (Nat → Nat) × List Nat × (Nat → va_E)) (I := fun q => match q with | (i, X, M, g) => i ≤ 6 ∧ p1 192 X L f a M g (SH i) (EH κ i X)) (μ := fun q => match q with | (i, _, _, _) => 6 - i) (CE := fun q => match q with | (i, _, _, _) => 1 + 14 * i) (SL := fun q => match q with | (i, _, _, _) => 6 + 246 * i) (LL := fun q => match q with | (_, _, M, _) => M) (VS := fun q => match q with | (i, _, _, _) => [(0, .ref a), (1, .int (nI i))]) (FF := fun q => match q with | (_, _, _, g) => g) ?_ (0, X, L1, f4) ⟨by decide, hz⟩
  intro q hI ih
  obtain ⟨i, X, M, g⟩ := q
  dsimp only at hI ih ⊢
  obtain ⟨hi6, hg⟩ := hI
  refine pg_iload_n (pc := 25) hC dX0_init_25 1 rfl rfl ?_
  refine pg_bipush (pc := 26) (v := 6) hC dX0_init_26 (by decide) ?_
  refine pg_icmp_geN (pc := 28) hC 50 dX0_init_28 (by decide) (i) (6) rfl rfl (by omega) (by omega) (fun c1 => ?_) (fun c1 => ?_)
  · skip
    obtain rfl : i = 6 := by omega
    exact pg_vret (pc := 50) hC dX0_init_50 rfl ⟨X, hg⟩
  · skip
    refine pg_aload_n (pc := 31) hC dX0_init_31 0 rfl rfl ?_
    refine pg1_get (pc := 32) (v := .ref (X 193)) hC hg rfl dX0_init_32 0 miX0_init_X0 (List.mem_of_getElem? (i := 5) rfl) rfl (by decide) rfl rfl ?_
    refine pg_iload_n (pc := 35) hC dX0_init_35 1 rfl rfl ?_
    have hi : i < 6 := by omega
    refine pg1_new (pc := 36) (ci := 3) (fs := [.null, .int 0, .null, .null, .null, .null, .null, .null, .null, .null, .null, .null, .null, .null, .int 0]) hC hg (16 * (1 + i) + 1) (by show ¬ (16 * (1 + i) + 1 = 192 ∨ 16 * (1 + i) + 1 = 193 ∨ (16 ≤ 16 * (1 + i) + 1 ∧ 16 * (1 + i) + 1 < 16 * (i + 1) ∧ (16 * (1 + i) + 1) % 16 < 14)); omega) dX0_init_36 miX0_init_X3 tyX3 tyX3_ok rfl (List.mem_of_getElem? (i := 4) rfl) (List.mem_of_getElem? (i := 8) rfl) (List.mem_of_getElem? (i := 9) rfl) (by intro j hj; rcases (show j = 0 ∨ j = 1 ∨ j = 2 ∨ j = 3 ∨ j = 4 ∨ j = 5 ∨ j = 6 ∨ j = 7 ∨ j = 8 ∨ j = 9 ∨ j = 10 ∨ j = 11 ∨ j = 12 ∨ j = 13 ∨ j = 14 by omega) with rfl | rfl | rfl | rfl | rfl | rfl | rfl | rfl | rfl | rfl | rfl | rfl | rfl | rfl | rfl <;> rfl) ⟨show 1 + 14 * i + 1 ≤ 85 by omega, show 6 + 246 * i + 15 ≤ 1482 by omega⟩ (fun q L1 g1 h1 => ?_)
    refine pg_dup (pc := 39) hC dX0_init_39 rfl ?_
    have hq1 : q ∈ L1 := by have z := (p1_at h1 (k := 16 * (1 + i) + 1) (Or.inl rfl)).1; rwa [va_up_e] at z
    have hq2 : g1 q = .inr (3, [.null, .int 0, .null, .null, .null, .null, .null, .null, .null, .null, .null, .null, .null, .null, .int 0]) := by have z := (p1_at h1 (k := 16 * (1 + i) + 1) (Or.inl rfl)).2; rwa [va_up_e, va_up_e] at z
    refine pg_callIv (pc := 40) (As := []) (rest := [.ref q, .int (nI i), .ref (X 193)]) hC dX0_init_40 (cX3_init_c l hq1 hq2) (cwI 0 hC.2.2.2.2.1 gX0_init_X3_init rfl rfl rfl (hC.2.2.2.2.1 _ (List.mem_of_getElem? (i := 9) rfl)) (hC.2.2.2.2.1 _ (List.mem_of_getElem? (i := 10) rfl)) (hC.2.2.2.2.1 _ (List.mem_of_getElem? (i := 11) rfl)) rfl (by decide +kernel) ⟨Nat.le_of_ble_eq_true rfl, Nat.le_of_ble_eq_true rfl⟩) rfl rfl (Nat.le_of_ble_eq_true rfl) ⟨show 1 + 14 * i + 1 + 13 ≤ 85 by omega, show 6 + 246 * i + 15 + 231 ≤ 1482 by omega⟩ (fun u hu => ?_)
    obtain ⟨M2, g2⟩ := u
    obtain ⟨X2, hX2, hXq, hin⟩ := p1_school h1 (show 16 * (1 + i) + 1 ≠ 192 by omega) (fun d hd z => by have z : 16 * (1 + i) + d = 192 ∨ 16 * (1 + i) + d = 193 ∨ (16 ≤ 16 * (1 + i) + d ∧ 16 * (1 + i) + d < 16 * (i + 1) ∧ (16 * (1 + i) + d) % 16 < 14) := z; omega) hu
    refine pg1_astq (pc := 43) (n := 6) (row := rowH i X) hC hin 193 (16 * (1 + i) + 1) (Or.inl (Or.inr (Or.inl rfl))) (Or.inr ⟨by omega, by omega⟩) (show (if 16 * (1 + i) ≤ 193 ∧ 193 - 16 * (1 + i) < 14 then _ else EH κ i X 193) = _ by rw [if_neg (by omega)]; rfl) (show (if 16 * (1 + i) ≤ 16 * (1 + i) + 1 ∧ 16 * (1 + i) + 1 - 16 * (1 + i) < 14 then pS_E κ (fun k => X2 (16 * (1 + i) + k)) (zS 10 10) (16 * (1 + i) + 1 - 16 * (1 + i)) else _) = Sum.inr (3, pv_so (fun k => X2 (16 * (1 + i) + k)) (zS 10 10)) by rw [if_pos (by omega), show 16 * (1 + i) + 1 - 16 * (1 + i) = 1 by omega]; rfl) (hX2 193 (Or.inr (Or.inl rfl))) hXq dX0_init_43 i rfl hi (by decide) (fun g3 h3 => ?_)
    have hg3 := pH_step hi hX2 hXq h3
    refine pg_widen (k := 1 + 14 * (i + 1)) (n := 6 + 246 * (i + 1)) (by omega) (by omega) ?_
    refine pg_iinc (pc := 44) (v := nI (i + 1)) (vs' := [(1, .int (nI (i + 1))), (0, .ref (a))]) hC dX0_init_44 1 rfl (nI_add (i) 1) (by decide) rfl ?_
    refine pg_goto (pc := 47) hC 25 dX0_init_47 (by decide) ?_
    refine pg_sub (vs' := [(0, .ref (a)), (1, .int (nI (i + 1)))]) [1, 0] rfl ?_
    exact ih (i + 1, X2, M2, g3) ⟨by omega, hg3⟩ (show 6 - (i + 1) < 6 - i by omega)
end
section
/-- what another constructor made comes in under the codes B + d, its contents told by the addresses -/
theorem p1_obj {o : Nat} {X : Nat → Nat} {L0 : List Nat} {f0 : Nat → va_E} {a : Nat} {L1 : List Nat} {f1 : Nat → va_E} {S : Nat → Prop} {E : Nat → va_E} {e : va_E} {q B o2 : Nat} {M2 : List Nat} {g2 : Nat → va_E} {S2 : Nat → Prop} [DecidablePred S2] {F : (Nat → Nat) → Nat → va_E} (hF : ∀ xs ys : Nat → Nat, (∀ m, S2 m → xs m = ys m) → ∀ k, S2 k → F xs k = F ys k) (h : p1 o (va_up X (B + o2) q) L0 f0 a L1 f1 (fun c => c = B + o2 ∨ S c) (va_up E (B + o2) e)) (hne : B + o2 ≠ o) (hS : ∀ d, S2 d → ¬ S (B + d)) (hy : pv_Wn o2 L1 f1 q S2 F (M2, g2)) : ∃ X2 : Nat → Nat, (∀ c, S c → X2 c = X c) ∧ X2 (B + o2) = q ∧ p1 o X2 L0 f0 a M2 g2 (fun c => S c ∨ (B ≤ c ∧ S2 (c - B))) (fun c => if B ≤ c ∧ S2 (c - B) then F (fun k => X2 (B + k)) (c - B) else E c) := by
  obtain ⟨ys, hy⟩ := hy
  have ho2 : S2 o2 := hy.2.2.2.2.1
  have hy2 : p1 o2 ys L1 f1 (va_up X (B + o2) q (B + o2)) M2 g2 S2 (F ys) := by rw [va_up_e]; exact hy
  have hin := p1_in h B (Or.inl rfl) hne hy2 (fun d hd hd1 z => z.elim (fun w => hd1 (by omega)) (hS d hd))
  have hoS : S o := h.2.2.2.2.1.resolve_left (fun z => hne z.symm)
  refine ⟨_, fun c hc => ?_, ?_, p1_to hin (fun c hc => ?_) (Or.inl hoS) (fun c hc => ?_)⟩
  · have hn : ¬ (B ≤ c ∧ S2 (c - B)) := fun z => hS (c - B) z.2 (by rw [show B + (c - B) = c by omega]; exact hc)
    have hn1 : c ≠ B + o2 := fun z => hn ⟨by omega, by rw [show c - B = o2 by omega]; exact ho2⟩
    show (if B ≤ c ∧ S2 (c - B) then ys (c - B) else va_up X (B + o2) q c) = X c
    rw [if_neg hn, va_up_ne _ _ hn1]
  · show (if B ≤ B + o2 ∧ S2 (B + o2 - B) then ys (B + o2 - B) else va_up X (B + o2) q (B + o2)) = q
    rw [if_pos ⟨by omega, by rw [show B + o2 - B = o2 by omega]; exact ho2⟩, show B + o2 - B = o2 by omega]
    exact hy.2.2.2.2.2.1
  · exact hc.elim (fun z => Or.inl (Or.inr z)) Or.inr
  · show (if B ≤ c ∧ S2 (c - B) then _ else _) = (if B ≤ c ∧ S2 (c - B) then F ys (c - B) else va_up E (B + o2) e c)
    by_cases z : B ≤ c ∧ S2 (c - B)
    · rw [if_pos z, if_pos z]
      refine hF _ _ (fun m hm => ?_) _ z.2
      show (if B ≤ B + m ∧ S2 (B + m - B) then ys (B + m - B) else va_up X (B + o2) q (B + m)) = ys m
      have em : B + m - B = m := by omega
      rw [if_pos ⟨by omega, by rw [em]; exact hm⟩, em]
    · rw [if_neg z, if_neg z, va_up_ne _ _ (fun w => z ⟨by omega, by rw [show c - B = o2 by omega]; exact ho2⟩)]
theorem hF_S {κ : pv_Kt} {z : Nat → Nat → Int32} (xs ys : Nat → Nat) (h : ∀ m, m < 14 → xs m = ys m) (k : Nat) (_ : k < 14) : pS_E κ xs z k = pS_E κ ys z k := pS_E_congr h k
theorem hF_H {κ : pv_Kt} (xs ys : Nat → Nat) (h : ∀ m, SH 6 m → xs m = ys m) (k : Nat) (hk : SH 6 k) : EH κ 6 xs k = EH κ 6 ys k := by
  have hk : k = 192 ∨ k = 193 ∨ (16 ≤ k ∧ k < 16 * (6 + 1) ∧ k % 16 < 14) := hk
  unfold EH
  by_cases c1 : k = 192
  · rw [if_pos c1, if_pos c1, h 193 (Or.inr (Or.inl rfl))]
  · rw [if_neg c1, if_neg c1]
    by_cases c2 : k = 193
    · rw [if_pos c2, if_pos c2]
      have e : rowH 6 xs = rowH 6 ys := by
        funext j
        unfold rowH
        by_cases w : j < 6
        · rw [if_pos w, if_pos w, h _ (Or.inr (Or.inr ⟨by omega, by omega, by omega⟩))]
        · rw [if_neg w, if_neg w]
      rw [e]
    · rw [if_neg c2, if_neg c2]
      exact pS_E_congr (fun m hm => h _ (Or.inr (Or.inr ⟨by omega, by omega, by omega⟩))) _
abbrev EP (κ : pv_Kt) (xs : Nat → Nat) (k : Nat) : va_E := if k = 1 then .inr (1, [.ref (xs 0), .int 0]) else .inl (κ.2.1 0, 60, .inl (fun _ => 0))
abbrev ER (xs : Nat → Nat) (k : Nat) : va_E := .inr (2, [.int 0, .int 0, .int 0, .int 0, .int (-6)])
theorem hF_P {κ : pv_Kt} (xs ys : Nat → Nat) (h : ∀ m, m < 2 → xs m = ys m) (k : Nat) (_ : k < 2) : EP κ xs k = EP κ ys k := by
  unfold EP
  rw [h 0 (by decide)]
theorem hF_R (xs ys : Nat → Nat) (_ : ∀ m, m = 0 → xs m = ys m) (k : Nat) (_ : k = 0) : ER xs k = ER ys k := rfl
/-- the class's codes and contents when it is made -/
abbrev SX (c : Nat) : Prop := (c < 144 ∧ c % 16 < 14) ∨ c = 144 ∨ c = 145 ∨ c = 160 ∨ (192 ≤ c ∧ c ≤ 196)
def rowX (xs : Nat → Nat) : Nat → Option Nat := fun j => if j < 2 then some (xs (16 * (7 + j) + 1)) else none
def EX (κ : pv_Kt) (xs : Nat → Nat) (c : Nat) : va_E :=
  if c < 144 then pS_E κ (fun k => xs (16 * (c / 16) + k)) (zS 10 10) (c % 16)
  else if c = 144 then .inl (κ.2.1 0, 60, .inl (fun _ => 0))
  else if c = 145 then .inr (1, [.ref (xs 144), .int 0])
  else if c = 160 then .inr (2, [.int 0, .int 0, .int 0, .int 0, .int (-6)])
  else if c = 192 then .inr (0, [.ref (xs 193), .int 0, .int 0])
  else if c = 193 then .inl (κ.2.1 3, 6, .inr (.inr (.inr (.inr (rowH 6 xs)))))
  else if c = 194 then .inr (4, [.ref (xs 1), .ref (xs 192), .ref (xs 195), .ref (xs 196), .ref (xs 145), .ref (xs 160)])
  else if c = 195 then .inl (κ.2.1 3, 2, .inr (.inr (.inr (.inr (rowX xs)))))
  else .inl (κ.2.1 2, 2, .inl (fun _ => 0))
end
section
abbrev rmX4_init : Room := { frames := 4, cells := 133, slots := 2294, locals := 103 }
theorem miX4_init_X0 : ∀ w ∈ wsX00, w ∈ wsX4_init := fun _ h => List.mem_cons_of_mem _ (List.mem_append_left _ (List.mem_append_left _ (List.mem_append_right _ h)))
theorem miX4_init_X1 : ∀ w ∈ wsX10, w ∈ wsX4_init := fun _ h => List.mem_cons_of_mem _ (List.mem_append_left _ (List.mem_append_right _ h))
theorem miX4_init_X2 : ∀ w ∈ wsX20, w ∈ wsX4_init := fun _ h => List.mem_cons_of_mem _ (List.mem_append_right _ h)
theorem miX4_init_X3 : ∀ w ∈ wsX30, w ∈ wsX4_init := fun _ h => List.mem_cons_of_mem _ (List.mem_append_left _ (List.mem_append_left _ (List.mem_append_left _ (List.mem_append_left _ (List.mem_append_right _ h)))))
theorem miX4_init_X4 : ∀ w ∈ wsX40, w ∈ wsX4_init := fun _ h => List.mem_cons_of_mem _ (List.mem_append_left _ (List.mem_append_left _ (List.mem_append_left _ (List.mem_append_right _ h))))
set_option maxHeartbeats 16000000 in
set_option maxRecDepth 20000 in
theorem cX4_init_c (l : Launch) {κ : pv_Kt} {L : List Nat} {f : Nat → va_E} {a : Nat} (hL : a ∈ L) (hf : f a = .inr (4, [.null, .null, .null, .null, .null, .null])) : pv_Mv l κ yX4_init wsX4_init rmX4_init L f [.ref a] 133 2294 (pv_Wn 194 L f a (SX) (EX κ)) := by
  refine pv_startV (cc := cX4_init) (maxL := 2) (ret := none) (by decide) rfl (Nat.le_of_ble_eq_true rfl) (fun A0 P0 E0 S0 M0 a0 B0 T0 C0 hC => ?_)
  refine pg_sub (vs' := [(0, .ref a)]) [0] rfl ?_
  have h0 := p1_0 194 hL hf
  refine pg_aload_n (pc := 0) hC dX4_init_0 0 rfl rfl ?_
  refine pg_objInit (pc := 1) hC dX4_init_1 (List.mem_of_getElem? (i := 1) rfl) (List.mem_of_getElem? (i := 2) rfl) (List.mem_of_getElem? (i := 3) rfl) (Nat.le_of_ble_eq_true rfl) (Nat.le_of_ble_eq_true rfl) ?_
  refine pg_aload_n (pc := 4) hC dX4_init_4 0 rfl rfl ?_
  refine pg1_new (pc := 5) (ci := 3) (fs := [.null, .int 0, .null, .null, .null, .null, .null, .null, .null, .null, .null, .null, .null, .null, .int 0]) hC h0 1 (by show ¬ (1 = 194); omega) dX4_init_5 miX4_init_X3 tyX3 tyX3_ok rfl (List.mem_of_getElem? (i := 4) rfl) (List.mem_of_getElem? (i := 5) rfl) (List.mem_of_getElem? (i := 6) rfl) (by intro j hj; rcases (show j = 0 ∨ j = 1 ∨ j = 2 ∨ j = 3 ∨ j = 4 ∨ j = 5 ∨ j = 6 ∨ j = 7 ∨ j = 8 ∨ j = 9 ∨ j = 10 ∨ j = 11 ∨ j = 12 ∨ j = 13 ∨ j = 14 by omega) with rfl | rfl | rfl | rfl | rfl | rfl | rfl | rfl | rfl | rfl | rfl | rfl | rfl | rfl | rfl <;> rfl) ⟨Nat.le_of_ble_eq_true rfl, Nat.le_of_ble_eq_true rfl⟩ (fun q1 L1 f1 h1 => ?_)
  refine pg_dup (pc := 8) hC dX4_init_8 rfl ?_
  have ha1 : q1 ∈ L1 := by have z := (p1_at h1 (k := 1) (Or.inl rfl)).1; rwa [va_up_e] at z
  have hb1 : f1 q1 = .inr (3, [.null, .int 0, .null, .null, .null, .null, .null, .null, .null, .null, .null, .null, .null, .null, .int 0]) := by have z := (p1_at h1 (k := 1) (Or.inl rfl)).2; rwa [va_up_e, va_up_e] at z
  refine pg_callIv (pc := 9) (As := []) (rest := [.ref (q1), .ref (a)]) hC dX4_init_9 (cX3_init_c l ha1 hb1) (cwI 0 hC.2.2.2.2.1 gX4_init_X3_init rfl rfl rfl (hC.2.2.2.2.1 _ (List.mem_of_getElem? (i := 6) rfl)) (hC.2.2.2.2.1 _ (List.mem_of_getElem? (i := 23) rfl)) (hC.2.2.2.2.1 _ (List.mem_of_getElem? (i := 24) rfl)) rfl (by decide +kernel) ⟨Nat.le_of_ble_eq_true rfl, Nat.le_of_ble_eq_true rfl⟩) rfl rfl (Nat.le_of_ble_eq_true rfl) ⟨Nat.le_of_ble_eq_true rfl, Nat.le_of_ble_eq_true rfl⟩ (fun u hu => ?_)
  obtain ⟨M1, g1⟩ := u
  obtain ⟨X1, hX1, hv1, hp1⟩ := p1_obj (B := 0) (o2 := 1) (S2 := (fun k => k < 14)) (F := (fun xs => pS_E κ xs (zS 10 10))) (fun xs ys h k hk => hF_S xs ys h k hk) h1 (by decide) (fun d hd z => by have hd : d < 14 := hd; have z : ((0 + d) = 194) := z; omega) hu
  refine pg1_put (pc := 12) (ty := tyX4 0) (fs := [.null, .null, .null, .null, .null, .null]) hC hp1 rfl dX4_init_12 0 miX4_init_X4 tyX4 tyX4_ok nmX4 (List.mem_of_getElem? (i := 7) rfl) rfl (by decide) rfl rfl rfl (tyX4_ok 0 (by decide)) rfl rfl (Nat.le_of_ble_eq_true rfl) (fun f2 h2 => ?_)
  refine pg_aload_n (pc := 15) hC dX4_init_15 0 rfl rfl ?_
  refine pg1_new (pc := 16) (ci := 0) (fs := [.null, .int 0, .int 0]) hC h2 192 (by show ¬ ((192 = 194) ∨ (0 ≤ 192 ∧ (192 - 0) < 14)); omega) dX4_init_16 miX4_init_X0 tyX0 tyX0_ok rfl (List.mem_of_getElem? (i := 8) rfl) (List.mem_of_getElem? (i := 9) rfl) (List.mem_of_getElem? (i := 10) rfl) (by intro j hj; rcases (show j = 0 ∨ j = 1 ∨ j = 2 by omega) with rfl | rfl | rfl <;> rfl) ⟨Nat.le_of_ble_eq_true rfl, Nat.le_of_ble_eq_true rfl⟩ (fun q3 L3 f3 h3 => ?_)
  refine pg_dup (pc := 19) hC dX4_init_19 rfl ?_
  have ha2 : q3 ∈ L3 := by have z := (p1_at h3 (k := 192) (Or.inl rfl)).1; rwa [va_up_e] at z
  have hb2 : f3 q3 = .inr (0, [.null, .int 0, .int 0]) := by have z := (p1_at h3 (k := 192) (Or.inl rfl)).2; rwa [va_up_e, va_up_e] at z
  refine pg_callIv (pc := 20) (As := []) (rest := [.ref (q3), .ref (a)]) hC dX4_init_20 (cX0_init_c l ha2 hb2) (cwI 0 hC.2.2.2.2.1 gX4_init_X0_init rfl rfl rfl (hC.2.2.2.2.1 _ (List.mem_of_getElem? (i := 10) rfl)) (hC.2.2.2.2.1 _ (List.mem_of_getElem? (i := 54) rfl)) (hC.2.2.2.2.1 _ (List.mem_of_getElem? (i := 55) rfl)) rfl (by decide +kernel) ⟨Nat.le_of_ble_eq_true rfl, Nat.le_of_ble_eq_true rfl⟩) rfl rfl (Nat.le_of_ble_eq_true rfl) ⟨Nat.le_of_ble_eq_true rfl, Nat.le_of_ble_eq_true rfl⟩ (fun u hu => ?_)
  obtain ⟨M2, g2⟩ := u
  obtain ⟨X2, hX2, hv2, hp2⟩ := p1_obj (B := 0) (o2 := 192) (S2 := (SH 6)) (F := (EH κ 6)) (fun xs ys h k hk => hF_H xs ys h k hk) h3 (by decide) (fun d hd z => by have hd : (d = 192 ∨ d = 193 ∨ (16 ≤ d ∧ d < 16 * (6 + 1) ∧ d % 16 < 14)) := hd; have z : (((0 + d) = 194) ∨ (0 ≤ (0 + d) ∧ ((0 + d) - 0) < 14)) := z; omega) hu
  refine pg1_put (pc := 23) (ty := tyX4 1) (fs := [.ref (q1), .null, .null, .null, .null, .null]) hC hp2 rfl dX4_init_23 1 miX4_init_X4 tyX4 tyX4_ok nmX4 (List.mem_of_getElem? (i := 11) rfl) rfl (by decide) rfl rfl rfl (tyX4_ok 1 (by decide)) rfl rfl (Nat.le_of_ble_eq_true rfl) (fun f4 h4 => ?_)
  refine pg_aload_n (pc := 26) hC dX4_init_26 0 rfl rfl ?_
  refine pg_iconst (pc := 27) (v := 2) hC dX4_init_27 (by decide) ?_
  refine pg1_newq (pc := 28) (N := 2) hC h4 195 (by show ¬ (((195 = 194) ∨ (0 ≤ 195 ∧ (195 - 0) < 14)) ∨ (0 ≤ 195 ∧ ((195 - 0) = 192 ∨ (195 - 0) = 193 ∨ (16 ≤ (195 - 0) ∧ (195 - 0) < 16 * (6 + 1) ∧ (195 - 0) % 16 < 14)))); omega) dX4_init_28 (List.mem_of_getElem? (i := 4) rfl) rfl (by decide) ⟨Nat.le_of_ble_eq_true rfl, Nat.le_of_ble_eq_true rfl⟩ (fun q5 L5 f5 h5 => ?_)
  obtain ⟨X3, hD3⟩ : ∃ z, z = va_up X2 195 q5 := ⟨_, rfl⟩
  rw [← hD3] at h5
  have hv3 : X3 195 = q5 := by rw [hD3, va_up_e]
  have hX3 : ∀ c, ((((c = 194) ∨ (0 ≤ c ∧ (c - 0) < 14)) ∨ (0 ≤ c ∧ ((c - 0) = 192 ∨ (c - 0) = 193 ∨ (16 ≤ (c - 0) ∧ (c - 0) < 16 * (6 + 1) ∧ (c - 0) % 16 < 14))))) → X3 c = X2 c := fun c hc => by rw [hD3, va_up_ne _ _ (by omega)]
  refine pg1_put (pc := 31) (ty := tyX4 2) (fs := [.ref (q1), .ref (q3), .null, .null, .null, .null]) hC h5 rfl dX4_init_31 2 miX4_init_X4 tyX4 tyX4_ok nmX4 (List.mem_of_getElem? (i := 12) rfl) rfl (by decide) rfl rfl rfl (tyX4_ok 2 (by decide)) rfl rfl (Nat.le_of_ble_eq_true rfl) (fun f6 h6 => ?_)
  refine pg_iconst (pc := 34) (v := 0) hC dX4_init_34 (by decide) ?_
  refine pg_istore_n (pc := 35) (vs' := [(1, .int 0), (0, .ref (a))]) hC dX4_init_35 rfl (by decide) rfl ?_
  refine pg_iload_n (pc := 36) hC dX4_init_36 0 rfl rfl ?_
  refine pg_iconst (pc := 37) (v := 2) hC dX4_init_37 (by decide) ?_
  refine pg_icmp_geN (pc := 38) hC 60 dX4_init_38 (by decide) (0) (2) rfl rfl (by decide) (by decide) (fun c1 => False.elim (absurd c1 (by decide))) (fun c1 => ?_)
  refine pg_aload_n (pc := 41) hC dX4_init_41 1 rfl rfl ?_
  refine pg1_get (pc := 42) (v := .ref (q5)) (fs := [.ref (q1), .ref (q3), .ref (q5), .null, .null, .null]) hC h6 rfl dX4_init_42 2 miX4_init_X4 (List.mem_of_getElem? (i := 12) rfl) rfl (by decide) rfl rfl ?_
  refine pg_iload_n (pc := 45) hC dX4_init_45 0 rfl rfl ?_
  refine pg1_new (pc := 46) (ci := 3) (fs := [.null, .int 0, .null, .null, .null, .null, .null, .null, .null, .null, .null, .null, .null, .null, .int 0]) hC h6 113 (by show ¬ (113 = 195 ∨ (((113 = 194) ∨ (0 ≤ 113 ∧ (113 - 0) < 14)) ∨ (0 ≤ 113 ∧ ((113 - 0) = 192 ∨ (113 - 0) = 193 ∨ (16 ≤ (113 - 0) ∧ (113 - 0) < 16 * (6 + 1) ∧ (113 - 0) % 16 < 14))))); omega) dX4_init_46 miX4_init_X3 tyX3 tyX3_ok rfl (List.mem_of_getElem? (i := 4) rfl) (List.mem_of_getElem? (i := 5) rfl) (List.mem_of_getElem? (i := 6) rfl) (by intro j hj; rcases (show j = 0 ∨ j = 1 ∨ j = 2 ∨ j = 3 ∨ j = 4 ∨ j = 5 ∨ j = 6 ∨ j = 7 ∨ j = 8 ∨ j = 9 ∨ j = 10 ∨ j = 11 ∨ j = 12 ∨ j = 13 ∨ j = 14 by omega) with rfl | rfl | rfl | rfl | rfl | rfl | rfl | rfl | rfl | rfl | rfl | rfl | rfl | rfl | rfl <;> rfl) ⟨Nat.le_of_ble_eq_true rfl, Nat.le_of_ble_eq_true rfl⟩ (fun q7 L7 f7 h7 => ?_)
  refine pg_dup (pc := 49) hC dX4_init_49 rfl ?_
  have ha4 : q7 ∈ L7 := by have z := (p1_at h7 (k := 113) (Or.inl rfl)).1; rwa [va_up_e] at z
  have hb4 : f7 q7 = .inr (3, [.null, .int 0, .null, .null, .null, .null, .null, .null, .null, .null, .null, .null, .null, .null, .int 0]) := by have z := (p1_at h7 (k := 113) (Or.inl rfl)).2; rwa [va_up_e, va_up_e] at z
  refine pg_callIv (pc := 50) (As := []) (rest := [.ref (q7), .int 0, .ref (q5)]) hC dX4_init_50 (cX3_init_c l ha4 hb4) (cwI 0 hC.2.2.2.2.1 gX4_init_X3_init rfl rfl rfl (hC.2.2.2.2.1 _ (List.mem_of_getElem? (i := 6) rfl)) (hC.2.2.2.2.1 _ (List.mem_of_getElem? (i := 23) rfl)) (hC.2.2.2.2.1 _ (List.mem_of_getElem? (i := 24) rfl)) rfl (by decide +kernel) ⟨Nat.le_of_ble_eq_true rfl, Nat.le_of_ble_eq_true rfl⟩) rfl rfl (Nat.le_of_ble_eq_true rfl) ⟨Nat.le_of_ble_eq_true rfl, Nat.le_of_ble_eq_true rfl⟩ (fun u hu => ?_)
  obtain ⟨M4, g4⟩ := u
  obtain ⟨X4, hX4, hv4, hp4⟩ := p1_obj (B := 112) (o2 := 1) (S2 := (fun k => k < 14)) (F := (fun xs => pS_E κ xs (zS 10 10))) (fun xs ys h k hk => hF_S xs ys h k hk) h7 (by decide) (fun d hd z => by have hd : d < 14 := hd; have z : ((112 + d) = 195 ∨ ((((112 + d) = 194) ∨ (0 ≤ (112 + d) ∧ ((112 + d) - 0) < 14)) ∨ (0 ≤ (112 + d) ∧ (((112 + d) - 0) = 192 ∨ ((112 + d) - 0) = 193 ∨ (16 ≤ ((112 + d) - 0) ∧ ((112 + d) - 0) < 16 * (6 + 1) ∧ ((112 + d) - 0) % 16 < 14))))) := z; omega) hu
  refine pg1_astq (pc := 53) (n := 2) (row := (fun _ => none)) (fs := pv_so (fun k => X4 (112 + k)) (zS 10 10)) hC hp4 195 113 (by show ((195 = 195 ∨ (((195 = 194) ∨ (0 ≤ 195 ∧ (195 - 0) < 14)) ∨ (0 ≤ 195 ∧ ((195 - 0) = 192 ∨ (195 - 0) = 193 ∨ (16 ≤ (195 - 0) ∧ (195 - 0) < 16 * (6 + 1) ∧ (195 - 0) % 16 < 14))))) ∨ (112 ≤ 195 ∧ (195 - 112) < 14)); omega) (by show ((113 = 195 ∨ (((113 = 194) ∨ (0 ≤ 113 ∧ (113 - 0) < 14)) ∨ (0 ≤ 113 ∧ ((113 - 0) = 192 ∨ (113 - 0) = 193 ∨ (16 ≤ (113 - 0) ∧ (113 - 0) < 16 * (6 + 1) ∧ (113 - 0) % 16 < 14))))) ∨ (112 ≤ 113 ∧ (113 - 112) < 14)); omega) rfl rfl ((hX4 195 (by show (195 = 195 ∨ (((195 = 194) ∨ (0 ≤ 195 ∧ (195 - 0) < 14)) ∨ (0 ≤ 195 ∧ ((195 - 0) = 192 ∨ (195 - 0) = 193 ∨ (16 ≤ (195 - 0) ∧ (195 - 0) < 16 * (6 + 1) ∧ (195 - 0) % 16 < 14))))); omega)).trans hv3) hv4 dX4_init_53 0 rfl (by decide) (by decide) (fun f8 h8 => ?_)
  refine pg_iinc (pc := 54) (v := 1) (vs' := [(1, .int 1), (0, .ref (a))]) hC dX4_init_54 0 rfl (by decide) (by decide) rfl ?_
  refine pg_goto (pc := 57) hC 36 dX4_init_57 (by decide) ?_
  refine pg_iload_n (pc := 36) hC dX4_init_36 0 rfl rfl ?_
  refine pg_iconst (pc := 37) (v := 2) hC dX4_init_37 (by decide) ?_
  refine pg_icmp_geN (pc := 38) hC 60 dX4_init_38 (by decide) (1) (2) rfl rfl (by decide) (by decide) (fun c2 => False.elim (absurd c2 (by decide))) (fun c2 => ?_)
  refine pg_aload_n (pc := 41) hC dX4_init_41 1 rfl rfl ?_
  refine pg1_get (pc := 42) (v := .ref (q5)) (fs := [.ref (q1), .ref (q3), .ref (q5), .null, .null, .null]) hC h8 rfl dX4_init_42 2 miX4_init_X4 (List.mem_of_getElem? (i := 12) rfl) rfl (by decide) rfl rfl ?_
  refine pg_iload_n (pc := 45) hC dX4_init_45 0 rfl rfl ?_
  refine pg1_new (pc := 46) (ci := 3) (fs := [.null, .int 0, .null, .null, .null, .null, .null, .null, .null, .null, .null, .null, .null, .null, .int 0]) hC h8 129 (by show ¬ ((129 = 195 ∨ (((129 = 194) ∨ (0 ≤ 129 ∧ (129 - 0) < 14)) ∨ (0 ≤ 129 ∧ ((129 - 0) = 192 ∨ (129 - 0) = 193 ∨ (16 ≤ (129 - 0) ∧ (129 - 0) < 16 * (6 + 1) ∧ (129 - 0) % 16 < 14))))) ∨ (112 ≤ 129 ∧ (129 - 112) < 14)); omega) dX4_init_46 miX4_init_X3 tyX3 tyX3_ok rfl (List.mem_of_getElem? (i := 4) rfl) (List.mem_of_getElem? (i := 5) rfl) (List.mem_of_getElem? (i := 6) rfl) (by intro j hj; rcases (show j = 0 ∨ j = 1 ∨ j = 2 ∨ j = 3 ∨ j = 4 ∨ j = 5 ∨ j = 6 ∨ j = 7 ∨ j = 8 ∨ j = 9 ∨ j = 10 ∨ j = 11 ∨ j = 12 ∨ j = 13 ∨ j = 14 by omega) with rfl | rfl | rfl | rfl | rfl | rfl | rfl | rfl | rfl | rfl | rfl | rfl | rfl | rfl | rfl <;> rfl) ⟨Nat.le_of_ble_eq_true rfl, Nat.le_of_ble_eq_true rfl⟩ (fun q9 L9 f9 h9 => ?_)
  refine pg_dup (pc := 49) hC dX4_init_49 rfl ?_
  have ha5 : q9 ∈ L9 := by have z := (p1_at h9 (k := 129) (Or.inl rfl)).1; rwa [va_up_e] at z
  have hb5 : f9 q9 = .inr (3, [.null, .int 0, .null, .null, .null, .null, .null, .null, .null, .null, .null, .null, .null, .null, .int 0]) := by have z := (p1_at h9 (k := 129) (Or.inl rfl)).2; rwa [va_up_e, va_up_e] at z
  refine pg_callIv (pc := 50) (As := []) (rest := [.ref (q9), .int 1, .ref (q5)]) hC dX4_init_50 (cX3_init_c l ha5 hb5) (cwI 0 hC.2.2.2.2.1 gX4_init_X3_init rfl rfl rfl (hC.2.2.2.2.1 _ (List.mem_of_getElem? (i := 6) rfl)) (hC.2.2.2.2.1 _ (List.mem_of_getElem? (i := 23) rfl)) (hC.2.2.2.2.1 _ (List.mem_of_getElem? (i := 24) rfl)) rfl (by decide +kernel) ⟨Nat.le_of_ble_eq_true rfl, Nat.le_of_ble_eq_true rfl⟩) rfl rfl (Nat.le_of_ble_eq_true rfl) ⟨Nat.le_of_ble_eq_true rfl, Nat.le_of_ble_eq_true rfl⟩ (fun u hu => ?_)
  obtain ⟨M5, g5⟩ := u
  obtain ⟨X5, hX5, hv5, hp5⟩ := p1_obj (B := 128) (o2 := 1) (S2 := (fun k => k < 14)) (F := (fun xs => pS_E κ xs (zS 10 10))) (fun xs ys h k hk => hF_S xs ys h k hk) h9 (by decide) (fun d hd z => by have hd : d < 14 := hd; have z : (((128 + d) = 195 ∨ ((((128 + d) = 194) ∨ (0 ≤ (128 + d) ∧ ((128 + d) - 0) < 14)) ∨ (0 ≤ (128 + d) ∧ (((128 + d) - 0) = 192 ∨ ((128 + d) - 0) = 193 ∨ (16 ≤ ((128 + d) - 0) ∧ ((128 + d) - 0) < 16 * (6 + 1) ∧ ((128 + d) - 0) % 16 < 14))))) ∨ (112 ≤ (128 + d) ∧ ((128 + d) - 112) < 14)) := z; omega) hu
  refine pg1_astq (pc := 53) (n := 2) (row := (va_up (fun _ => none) 0 (some q7))) (fs := pv_so (fun k => X5 (128 + k)) (zS 10 10)) hC hp5 195 129 (by show (((195 = 195 ∨ (((195 = 194) ∨ (0 ≤ 195 ∧ (195 - 0) < 14)) ∨ (0 ≤ 195 ∧ ((195 - 0) = 192 ∨ (195 - 0) = 193 ∨ (16 ≤ (195 - 0) ∧ (195 - 0) < 16 * (6 + 1) ∧ (195 - 0) % 16 < 14))))) ∨ (112 ≤ 195 ∧ (195 - 112) < 14)) ∨ (128 ≤ 195 ∧ (195 - 128) < 14)); omega) (by show (((129 = 195 ∨ (((129 = 194) ∨ (0 ≤ 129 ∧ (129 - 0) < 14)) ∨ (0 ≤ 129 ∧ ((129 - 0) = 192 ∨ (129 - 0) = 193 ∨ (16 ≤ (129 - 0) ∧ (129 - 0) < 16 * (6 + 1) ∧ (129 - 0) % 16 < 14))))) ∨ (112 ≤ 129 ∧ (129 - 112) < 14)) ∨ (128 ≤ 129 ∧ (129 - 128) < 14)); omega) rfl rfl (((hX5 195 (by show ((195 = 195 ∨ (((195 = 194) ∨ (0 ≤ 195 ∧ (195 - 0) < 14)) ∨ (0 ≤ 195 ∧ ((195 - 0) = 192 ∨ (195 - 0) = 193 ∨ (16 ≤ (195 - 0) ∧ (195 - 0) < 16 * (6 + 1) ∧ (195 - 0) % 16 < 14))))) ∨ (112 ≤ 195 ∧ (195 - 112) < 14)); omega)).trans (hX4 195 (by show (195 = 195 ∨ (((195 = 194) ∨ (0 ≤ 195 ∧ (195 - 0) < 14)) ∨ (0 ≤ 195 ∧ ((195 - 0) = 192 ∨ (195 - 0) = 193 ∨ (16 ≤ (195 - 0) ∧ (195 - 0) < 16 * (6 + 1) ∧ (195 - 0) % 16 < 14))))); omega))).trans hv3) hv5 dX4_init_53 1 rfl (by decide) (by decide) (fun f10 h10 => ?_)
  refine pg_iinc (pc := 54) (v := 2) (vs' := [(1, .int 2), (0, .ref (a))]) hC dX4_init_54 0 rfl (by decide) (by decide) rfl ?_
  refine pg_goto (pc := 57) hC 36 dX4_init_57 (by decide) ?_
  refine pg_iload_n (pc := 36) hC dX4_init_36 0 rfl rfl ?_
  refine pg_iconst (pc := 37) (v := 2) hC dX4_init_37 (by decide) ?_
  refine pg_icmp_geN (pc := 38) hC 60 dX4_init_38 (by decide) (2) (2) rfl rfl (by decide) (by decide) (fun c3 => ?_) (fun c3 => False.elim (absurd c3 (by decide)))
  refine pg_aload_n (pc := 60) hC dX4_init_60 1 rfl rfl ?_
  refine pg_iconst (pc := 61) (v := 2) hC dX4_init_61 (by decide) ?_
  refine pg1_newa (pc := 62) (N := 2) hC h10 196 (by show ¬ (((196 = 195 ∨ (((196 = 194) ∨ (0 ≤ 196 ∧ (196 - 0) < 14)) ∨ (0 ≤ 196 ∧ ((196 - 0) = 192 ∨ (196 - 0) = 193 ∨ (16 ≤ (196 - 0) ∧ (196 - 0) < 16 * (6 + 1) ∧ (196 - 0) % 16 < 14))))) ∨ (112 ≤ 196 ∧ (196 - 112) < 14)) ∨ (128 ≤ 196 ∧ (196 - 128) < 14)); omega) dX4_init_62 2 rfl rfl (Or.inr (Or.inr rfl)) (List.mem_of_getElem? (i := 13) rfl) rfl (by decide) ⟨Nat.le_of_ble_eq_true rfl, Nat.le_of_ble_eq_true rfl⟩ (fun q11 L11 f11 h11 => ?_)
  obtain ⟨X6, hD6⟩ : ∃ z, z = va_up X5 196 q11 := ⟨_, rfl⟩
  rw [← hD6] at h11
  have hv6 : X6 196 = q11 := by rw [hD6, va_up_e]
  have hX6 : ∀ c, ((((c = 195 ∨ (((c = 194) ∨ (0 ≤ c ∧ (c - 0) < 14)) ∨ (0 ≤ c ∧ ((c - 0) = 192 ∨ (c - 0) = 193 ∨ (16 ≤ (c - 0) ∧ (c - 0) < 16 * (6 + 1) ∧ (c - 0) % 16 < 14))))) ∨ (112 ≤ c ∧ (c - 112) < 14)) ∨ (128 ≤ c ∧ (c - 128) < 14))) → X6 c = X5 c := fun c hc => by rw [hD6, va_up_ne _ _ (by omega)]
  refine pg1_put (pc := 64) (ty := tyX4 3) (fs := [.ref (q1), .ref (q3), .ref (q5), .null, .null, .null]) hC h11 rfl dX4_init_64 3 miX4_init_X4 tyX4 tyX4_ok nmX4 (List.mem_of_getElem? (i := 14) rfl) rfl (by decide) rfl rfl rfl (tyX4_ok 3 (by decide)) rfl rfl (Nat.le_of_ble_eq_true rfl) (fun f12 h12 => ?_)
  refine pg_aload_n (pc := 67) hC dX4_init_67 1 rfl rfl ?_
  refine pg1_new (pc := 68) (ci := 1) (fs := [.null, .int 0]) hC h12 145 (by show ¬ (145 = 196 ∨ (((145 = 195 ∨ (((145 = 194) ∨ (0 ≤ 145 ∧ (145 - 0) < 14)) ∨ (0 ≤ 145 ∧ ((145 - 0) = 192 ∨ (145 - 0) = 193 ∨ (16 ≤ (145 - 0) ∧ (145 - 0) < 16 * (6 + 1) ∧ (145 - 0) % 16 < 14))))) ∨ (112 ≤ 145 ∧ (145 - 112) < 14)) ∨ (128 ≤ 145 ∧ (145 - 128) < 14))); omega) dX4_init_68 miX4_init_X1 tyX1 tyX1_ok rfl (List.mem_of_getElem? (i := 15) rfl) (List.mem_of_getElem? (i := 16) rfl) (List.mem_of_getElem? (i := 17) rfl) (by intro j hj; rcases (show j = 0 ∨ j = 1 by omega) with rfl | rfl <;> rfl) ⟨Nat.le_of_ble_eq_true rfl, Nat.le_of_ble_eq_true rfl⟩ (fun q13 L13 f13 h13 => ?_)
  refine pg_dup (pc := 71) hC dX4_init_71 rfl ?_
  have ha7 : q13 ∈ L13 := by have z := (p1_at h13 (k := 145) (Or.inl rfl)).1; rwa [va_up_e] at z
  have hb7 : f13 q13 = .inr (1, [.null, .int 0]) := by have z := (p1_at h13 (k := 145) (Or.inl rfl)).2; rwa [va_up_e, va_up_e] at z
  refine pg_callINv (pc := 72) (As := []) (rest := [.ref (q13), .ref (a)]) hC dX4_init_72 (cX1_init_c l ha7 hb7) ⟨va_cnB 0 hC.2.2.2.2.1 gX4_init_X1_init_n33 rfl rfl rfl hC.2.2.2.2.2.2.2.2.2.1.2.1.1 (hC.2.2.2.2.1 _ (List.mem_of_getElem? (i := 17) rfl)) (by decide +kernel) ⟨Nat.le_of_ble_eq_true rfl, Nat.le_of_ble_eq_true rfl⟩, rfl, hC.2.2.2.2.1 _ (List.mem_of_getElem? (i := 63) rfl)⟩ rfl rfl (Nat.le_of_ble_eq_true rfl) ⟨Nat.le_of_ble_eq_true rfl, Nat.le_of_ble_eq_true rfl⟩ (fun u hu => ?_)
  obtain ⟨M7, g7⟩ := u
  obtain ⟨X7, hX7, hv7, hp7⟩ := p1_obj (B := 144) (o2 := 1) (S2 := (fun k => k < 2)) (F := (EP κ)) (fun xs ys h k hk => hF_P xs ys h k hk) h13 (by decide) (fun d hd z => by have hd : d < 2 := hd; have z : ((144 + d) = 196 ∨ ((((144 + d) = 195 ∨ ((((144 + d) = 194) ∨ (0 ≤ (144 + d) ∧ ((144 + d) - 0) < 14)) ∨ (0 ≤ (144 + d) ∧ (((144 + d) - 0) = 192 ∨ ((144 + d) - 0) = 193 ∨ (16 ≤ ((144 + d) - 0) ∧ ((144 + d) - 0) < 16 * (6 + 1) ∧ ((144 + d) - 0) % 16 < 14))))) ∨ (112 ≤ (144 + d) ∧ ((144 + d) - 112) < 14)) ∨ (128 ≤ (144 + d) ∧ ((144 + d) - 128) < 14))) := z; omega) hu
  refine pg1_put (pc := 75) (ty := tyX4 4) (fs := [.ref (q1), .ref (q3), .ref (q5), .ref (q11), .null, .null]) hC hp7 rfl dX4_init_75 4 miX4_init_X4 tyX4 tyX4_ok nmX4 (List.mem_of_getElem? (i := 18) rfl) rfl (by decide) rfl rfl rfl (tyX4_ok 4 (by decide)) rfl rfl (Nat.le_of_ble_eq_true rfl) (fun f14 h14 => ?_)
  refine pg_aload_n (pc := 78) hC dX4_init_78 1 rfl rfl ?_
  refine pg1_new (pc := 79) (ci := 2) (fs := [.int 0, .int 0, .int 0, .int 0, .int 0]) hC h14 160 (by show ¬ ((160 = 196 ∨ (((160 = 195 ∨ (((160 = 194) ∨ (0 ≤ 160 ∧ (160 - 0) < 14)) ∨ (0 ≤ 160 ∧ ((160 - 0) = 192 ∨ (160 - 0) = 193 ∨ (16 ≤ (160 - 0) ∧ (160 - 0) < 16 * (6 + 1) ∧ (160 - 0) % 16 < 14))))) ∨ (112 ≤ 160 ∧ (160 - 112) < 14)) ∨ (128 ≤ 160 ∧ (160 - 128) < 14))) ∨ (144 ≤ 160 ∧ (160 - 144) < 2)); omega) dX4_init_79 miX4_init_X2 tyX2 tyX2_ok rfl (List.mem_of_getElem? (i := 19) rfl) (List.mem_of_getElem? (i := 20) rfl) (List.mem_of_getElem? (i := 21) rfl) (by intro j hj; rcases (show j = 0 ∨ j = 1 ∨ j = 2 ∨ j = 3 ∨ j = 4 by omega) with rfl | rfl | rfl | rfl | rfl <;> rfl) ⟨Nat.le_of_ble_eq_true rfl, Nat.le_of_ble_eq_true rfl⟩ (fun q15 L15 f15 h15 => ?_)
  refine pg_dup (pc := 82) hC dX4_init_82 rfl ?_
  have ha8 : q15 ∈ L15 := by have z := (p1_at h15 (k := 160) (Or.inl rfl)).1; rwa [va_up_e] at z
  have hb8 : f15 q15 = .inr (2, [.int 0, .int 0, .int 0, .int 0, .int 0]) := by have z := (p1_at h15 (k := 160) (Or.inl rfl)).2; rwa [va_up_e, va_up_e] at z
  refine pg_callINv (pc := 83) (As := []) (rest := [.ref (q15), .ref (a)]) hC dX4_init_83 (cX2_init_c l ha8 hb8) ⟨va_cnB 0 hC.2.2.2.2.1 gX4_init_X2_init_n40 rfl rfl rfl hC.2.2.2.2.2.2.2.2.2.1.2.1.2.1 (hC.2.2.2.2.1 _ (List.mem_of_getElem? (i := 21) rfl)) (by decide +kernel) ⟨Nat.le_of_ble_eq_true rfl, Nat.le_of_ble_eq_true rfl⟩, rfl, hC.2.2.2.2.1 _ (List.mem_of_getElem? (i := 69) rfl)⟩ rfl rfl (Nat.le_of_ble_eq_true rfl) ⟨Nat.le_of_ble_eq_true rfl, Nat.le_of_ble_eq_true rfl⟩ (fun u hu => ?_)
  obtain ⟨M8, g8⟩ := u
  obtain ⟨X8, hX8, hv8, hp8⟩ := p1_obj (B := 160) (o2 := 0) (S2 := (fun k => k = 0)) (F := ER) (fun xs ys h k hk => hF_R xs ys h k hk) h15 (by decide) (fun d hd z => by have hd : d = 0 := hd; have z : (((160 + d) = 196 ∨ ((((160 + d) = 195 ∨ ((((160 + d) = 194) ∨ (0 ≤ (160 + d) ∧ ((160 + d) - 0) < 14)) ∨ (0 ≤ (160 + d) ∧ (((160 + d) - 0) = 192 ∨ ((160 + d) - 0) = 193 ∨ (16 ≤ ((160 + d) - 0) ∧ ((160 + d) - 0) < 16 * (6 + 1) ∧ ((160 + d) - 0) % 16 < 14))))) ∨ (112 ≤ (160 + d) ∧ ((160 + d) - 112) < 14)) ∨ (128 ≤ (160 + d) ∧ ((160 + d) - 128) < 14))) ∨ (144 ≤ (160 + d) ∧ ((160 + d) - 144) < 2)) := z; omega) hu
  refine pg1_put (pc := 86) (ty := tyX4 5) (fs := [.ref (q1), .ref (q3), .ref (q5), .ref (q11), .ref (q13), .null]) hC hp8 rfl dX4_init_86 5 miX4_init_X4 tyX4 tyX4_ok nmX4 (List.mem_of_getElem? (i := 22) rfl) rfl (by decide) rfl rfl rfl (tyX4_ok 5 (by decide)) rfl rfl (Nat.le_of_ble_eq_true rfl) (fun f16 h16 => ?_)
  have hfin : p1 194 X8 L f a M8 f16 SX (EX κ X8) := by
    refine p1_to h16 (fun c hc => ?_) (show SX 194 by show (194 < 144 ∧ 194 % 16 < 14) ∨ 194 = 144 ∨ 194 = 145 ∨ 194 = 160 ∨ (192 ≤ 194 ∧ 194 ≤ 196); omega) (fun c hc => ?_)
    · have hc : (c < 144 ∧ c % 16 < 14) ∨ c = 144 ∨ c = 145 ∨ c = 160 ∨ (192 ≤ c ∧ c ≤ 196) := hc
      show (((c = 196 ∨ (((c = 195 ∨ (((c = 194) ∨ (0 ≤ c ∧ (c - 0) < 14)) ∨ (0 ≤ c ∧ ((c - 0) = 192 ∨ (c - 0) = 193 ∨ (16 ≤ (c - 0) ∧ (c - 0) < 16 * (6 + 1) ∧ (c - 0) % 16 < 14))))) ∨ (112 ≤ c ∧ (c - 112) < 14)) ∨ (128 ≤ c ∧ (c - 128) < 14))) ∨ (144 ≤ c ∧ (c - 144) < 2)) ∨ (160 ≤ c ∧ (c - 160) = 0))
      omega
    have hc : (c < 144 ∧ c % 16 < 14) ∨ c = 144 ∨ c = 145 ∨ c = 160 ∨ (192 ≤ c ∧ c ≤ 196) := hc
    have v1 : X8 1 = q1 := (((hX8 1 (by show ((1 = 196 ∨ (((1 = 195 ∨ (((1 = 194) ∨ (0 ≤ 1 ∧ (1 - 0) < 14)) ∨ (0 ≤ 1 ∧ ((1 - 0) = 192 ∨ (1 - 0) = 193 ∨ (16 ≤ (1 - 0) ∧ (1 - 0) < 16 * (6 + 1) ∧ (1 - 0) % 16 < 14))))) ∨ (112 ≤ 1 ∧ (1 - 112) < 14)) ∨ (128 ≤ 1 ∧ (1 - 128) < 14))) ∨ (144 ≤ 1 ∧ (1 - 144) < 2)); omega)).trans ((hX7 1 (by show (1 = 196 ∨ (((1 = 195 ∨ (((1 = 194) ∨ (0 ≤ 1 ∧ (1 - 0) < 14)) ∨ (0 ≤ 1 ∧ ((1 - 0) = 192 ∨ (1 - 0) = 193 ∨ (16 ≤ (1 - 0) ∧ (1 - 0) < 16 * (6 + 1) ∧ (1 - 0) % 16 < 14))))) ∨ (112 ≤ 1 ∧ (1 - 112) < 14)) ∨ (128 ≤ 1 ∧ (1 - 128) < 14))); omega)).trans ((hX6 1 (by show (((1 = 195 ∨ (((1 = 194) ∨ (0 ≤ 1 ∧ (1 - 0) < 14)) ∨ (0 ≤ 1 ∧ ((1 - 0) = 192 ∨ (1 - 0) = 193 ∨ (16 ≤ (1 - 0) ∧ (1 - 0) < 16 * (6 + 1) ∧ (1 - 0) % 16 < 14))))) ∨ (112 ≤ 1 ∧ (1 - 112) < 14)) ∨ (128 ≤ 1 ∧ (1 - 128) < 14)); omega)).trans ((hX5 1 (by show ((1 = 195 ∨ (((1 = 194) ∨ (0 ≤ 1 ∧ (1 - 0) < 14)) ∨ (0 ≤ 1 ∧ ((1 - 0) = 192 ∨ (1 - 0) = 193 ∨ (16 ≤ (1 - 0) ∧ (1 - 0) < 16 * (6 + 1) ∧ (1 - 0) % 16 < 14))))) ∨ (112 ≤ 1 ∧ (1 - 112) < 14)); omega)).trans ((hX4 1 (by show (1 = 195 ∨ (((1 = 194) ∨ (0 ≤ 1 ∧ (1 - 0) < 14)) ∨ (0 ≤ 1 ∧ ((1 - 0) = 192 ∨ (1 - 0) = 193 ∨ (16 ≤ (1 - 0) ∧ (1 - 0) < 16 * (6 + 1) ∧ (1 - 0) % 16 < 14))))); omega)).trans ((hX3 1 (by show (((1 = 194) ∨ (0 ≤ 1 ∧ (1 - 0) < 14)) ∨ (0 ≤ 1 ∧ ((1 - 0) = 192 ∨ (1 - 0) = 193 ∨ (16 ≤ (1 - 0) ∧ (1 - 0) < 16 * (6 + 1) ∧ (1 - 0) % 16 < 14)))); omega)).trans (hX2 1 (by show ((1 = 194) ∨ (0 ≤ 1 ∧ (1 - 0) < 14)); omega)))))))).trans hv1)
    have v192 : X8 192 = q3 := (((hX8 192 (by show ((192 = 196 ∨ (((192 = 195 ∨ (((192 = 194) ∨ (0 ≤ 192 ∧ (192 - 0) < 14)) ∨ (0 ≤ 192 ∧ ((192 - 0) = 192 ∨ (192 - 0) = 193 ∨ (16 ≤ (192 - 0) ∧ (192 - 0) < 16 * (6 + 1) ∧ (192 - 0) % 16 < 14))))) ∨ (112 ≤ 192 ∧ (192 - 112) < 14)) ∨ (128 ≤ 192 ∧ (192 - 128) < 14))) ∨ (144 ≤ 192 ∧ (192 - 144) < 2)); omega)).trans ((hX7 192 (by show (192 = 196 ∨ (((192 = 195 ∨ (((192 = 194) ∨ (0 ≤ 192 ∧ (192 - 0) < 14)) ∨ (0 ≤ 192 ∧ ((192 - 0) = 192 ∨ (192 - 0) = 193 ∨ (16 ≤ (192 - 0) ∧ (192 - 0) < 16 * (6 + 1) ∧ (192 - 0) % 16 < 14))))) ∨ (112 ≤ 192 ∧ (192 - 112) < 14)) ∨ (128 ≤ 192 ∧ (192 - 128) < 14))); omega)).trans ((hX6 192 (by show (((192 = 195 ∨ (((192 = 194) ∨ (0 ≤ 192 ∧ (192 - 0) < 14)) ∨ (0 ≤ 192 ∧ ((192 - 0) = 192 ∨ (192 - 0) = 193 ∨ (16 ≤ (192 - 0) ∧ (192 - 0) < 16 * (6 + 1) ∧ (192 - 0) % 16 < 14))))) ∨ (112 ≤ 192 ∧ (192 - 112) < 14)) ∨ (128 ≤ 192 ∧ (192 - 128) < 14)); omega)).trans ((hX5 192 (by show ((192 = 195 ∨ (((192 = 194) ∨ (0 ≤ 192 ∧ (192 - 0) < 14)) ∨ (0 ≤ 192 ∧ ((192 - 0) = 192 ∨ (192 - 0) = 193 ∨ (16 ≤ (192 - 0) ∧ (192 - 0) < 16 * (6 + 1) ∧ (192 - 0) % 16 < 14))))) ∨ (112 ≤ 192 ∧ (192 - 112) < 14)); omega)).trans ((hX4 192 (by show (192 = 195 ∨ (((192 = 194) ∨ (0 ≤ 192 ∧ (192 - 0) < 14)) ∨ (0 ≤ 192 ∧ ((192 - 0) = 192 ∨ (192 - 0) = 193 ∨ (16 ≤ (192 - 0) ∧ (192 - 0) < 16 * (6 + 1) ∧ (192 - 0) % 16 < 14))))); omega)).trans (hX3 192 (by show (((192 = 194) ∨ (0 ≤ 192 ∧ (192 - 0) < 14)) ∨ (0 ≤ 192 ∧ ((192 - 0) = 192 ∨ (192 - 0) = 193 ∨ (16 ≤ (192 - 0) ∧ (192 - 0) < 16 * (6 + 1) ∧ (192 - 0) % 16 < 14)))); omega))))))).trans hv2)
    have v195 : X8 195 = q5 := (((hX8 195 (by show ((195 = 196 ∨ (((195 = 195 ∨ (((195 = 194) ∨ (0 ≤ 195 ∧ (195 - 0) < 14)) ∨ (0 ≤ 195 ∧ ((195 - 0) = 192 ∨ (195 - 0) = 193 ∨ (16 ≤ (195 - 0) ∧ (195 - 0) < 16 * (6 + 1) ∧ (195 - 0) % 16 < 14))))) ∨ (112 ≤ 195 ∧ (195 - 112) < 14)) ∨ (128 ≤ 195 ∧ (195 - 128) < 14))) ∨ (144 ≤ 195 ∧ (195 - 144) < 2)); omega)).trans ((hX7 195 (by show (195 = 196 ∨ (((195 = 195 ∨ (((195 = 194) ∨ (0 ≤ 195 ∧ (195 - 0) < 14)) ∨ (0 ≤ 195 ∧ ((195 - 0) = 192 ∨ (195 - 0) = 193 ∨ (16 ≤ (195 - 0) ∧ (195 - 0) < 16 * (6 + 1) ∧ (195 - 0) % 16 < 14))))) ∨ (112 ≤ 195 ∧ (195 - 112) < 14)) ∨ (128 ≤ 195 ∧ (195 - 128) < 14))); omega)).trans ((hX6 195 (by show (((195 = 195 ∨ (((195 = 194) ∨ (0 ≤ 195 ∧ (195 - 0) < 14)) ∨ (0 ≤ 195 ∧ ((195 - 0) = 192 ∨ (195 - 0) = 193 ∨ (16 ≤ (195 - 0) ∧ (195 - 0) < 16 * (6 + 1) ∧ (195 - 0) % 16 < 14))))) ∨ (112 ≤ 195 ∧ (195 - 112) < 14)) ∨ (128 ≤ 195 ∧ (195 - 128) < 14)); omega)).trans ((hX5 195 (by show ((195 = 195 ∨ (((195 = 194) ∨ (0 ≤ 195 ∧ (195 - 0) < 14)) ∨ (0 ≤ 195 ∧ ((195 - 0) = 192 ∨ (195 - 0) = 193 ∨ (16 ≤ (195 - 0) ∧ (195 - 0) < 16 * (6 + 1) ∧ (195 - 0) % 16 < 14))))) ∨ (112 ≤ 195 ∧ (195 - 112) < 14)); omega)).trans (hX4 195 (by show (195 = 195 ∨ (((195 = 194) ∨ (0 ≤ 195 ∧ (195 - 0) < 14)) ∨ (0 ≤ 195 ∧ ((195 - 0) = 192 ∨ (195 - 0) = 193 ∨ (16 ≤ (195 - 0) ∧ (195 - 0) < 16 * (6 + 1) ∧ (195 - 0) % 16 < 14))))); omega)))))).trans hv3)
    have v196 : X8 196 = q11 := (((hX8 196 (by show ((196 = 196 ∨ (((196 = 195 ∨ (((196 = 194) ∨ (0 ≤ 196 ∧ (196 - 0) < 14)) ∨ (0 ≤ 196 ∧ ((196 - 0) = 192 ∨ (196 - 0) = 193 ∨ (16 ≤ (196 - 0) ∧ (196 - 0) < 16 * (6 + 1) ∧ (196 - 0) % 16 < 14))))) ∨ (112 ≤ 196 ∧ (196 - 112) < 14)) ∨ (128 ≤ 196 ∧ (196 - 128) < 14))) ∨ (144 ≤ 196 ∧ (196 - 144) < 2)); omega)).trans (hX7 196 (by show (196 = 196 ∨ (((196 = 195 ∨ (((196 = 194) ∨ (0 ≤ 196 ∧ (196 - 0) < 14)) ∨ (0 ≤ 196 ∧ ((196 - 0) = 192 ∨ (196 - 0) = 193 ∨ (16 ≤ (196 - 0) ∧ (196 - 0) < 16 * (6 + 1) ∧ (196 - 0) % 16 < 14))))) ∨ (112 ≤ 196 ∧ (196 - 112) < 14)) ∨ (128 ≤ 196 ∧ (196 - 128) < 14))); omega))).trans hv6)
    have v145 : X8 145 = q13 := ((hX8 145 (by show ((145 = 196 ∨ (((145 = 195 ∨ (((145 = 194) ∨ (0 ≤ 145 ∧ (145 - 0) < 14)) ∨ (0 ≤ 145 ∧ ((145 - 0) = 192 ∨ (145 - 0) = 193 ∨ (16 ≤ (145 - 0) ∧ (145 - 0) < 16 * (6 + 1) ∧ (145 - 0) % 16 < 14))))) ∨ (112 ≤ 145 ∧ (145 - 112) < 14)) ∨ (128 ≤ 145 ∧ (145 - 128) < 14))) ∨ (144 ≤ 145 ∧ (145 - 144) < 2)); omega)).trans hv7)
    have v160 : X8 160 = q15 := hv8
    have v113 : X8 113 = q7 := (((hX8 113 (by show ((113 = 196 ∨ (((113 = 195 ∨ (((113 = 194) ∨ (0 ≤ 113 ∧ (113 - 0) < 14)) ∨ (0 ≤ 113 ∧ ((113 - 0) = 192 ∨ (113 - 0) = 193 ∨ (16 ≤ (113 - 0) ∧ (113 - 0) < 16 * (6 + 1) ∧ (113 - 0) % 16 < 14))))) ∨ (112 ≤ 113 ∧ (113 - 112) < 14)) ∨ (128 ≤ 113 ∧ (113 - 128) < 14))) ∨ (144 ≤ 113 ∧ (113 - 144) < 2)); omega)).trans ((hX7 113 (by show (113 = 196 ∨ (((113 = 195 ∨ (((113 = 194) ∨ (0 ≤ 113 ∧ (113 - 0) < 14)) ∨ (0 ≤ 113 ∧ ((113 - 0) = 192 ∨ (113 - 0) = 193 ∨ (16 ≤ (113 - 0) ∧ (113 - 0) < 16 * (6 + 1) ∧ (113 - 0) % 16 < 14))))) ∨ (112 ≤ 113 ∧ (113 - 112) < 14)) ∨ (128 ≤ 113 ∧ (113 - 128) < 14))); omega)).trans ((hX6 113 (by show (((113 = 195 ∨ (((113 = 194) ∨ (0 ≤ 113 ∧ (113 - 0) < 14)) ∨ (0 ≤ 113 ∧ ((113 - 0) = 192 ∨ (113 - 0) = 193 ∨ (16 ≤ (113 - 0) ∧ (113 - 0) < 16 * (6 + 1) ∧ (113 - 0) % 16 < 14))))) ∨ (112 ≤ 113 ∧ (113 - 112) < 14)) ∨ (128 ≤ 113 ∧ (113 - 128) < 14)); omega)).trans (hX5 113 (by show ((113 = 195 ∨ (((113 = 194) ∨ (0 ≤ 113 ∧ (113 - 0) < 14)) ∨ (0 ≤ 113 ∧ ((113 - 0) = 192 ∨ (113 - 0) = 193 ∨ (16 ≤ (113 - 0) ∧ (113 - 0) < 16 * (6 + 1) ∧ (113 - 0) % 16 < 14))))) ∨ (112 ≤ 113 ∧ (113 - 112) < 14)); omega))))).trans hv4)
    have v129 : X8 129 = q9 := (((hX8 129 (by show ((129 = 196 ∨ (((129 = 195 ∨ (((129 = 194) ∨ (0 ≤ 129 ∧ (129 - 0) < 14)) ∨ (0 ≤ 129 ∧ ((129 - 0) = 192 ∨ (129 - 0) = 193 ∨ (16 ≤ (129 - 0) ∧ (129 - 0) < 16 * (6 + 1) ∧ (129 - 0) % 16 < 14))))) ∨ (112 ≤ 129 ∧ (129 - 112) < 14)) ∨ (128 ≤ 129 ∧ (129 - 128) < 14))) ∨ (144 ≤ 129 ∧ (129 - 144) < 2)); omega)).trans ((hX7 129 (by show (129 = 196 ∨ (((129 = 195 ∨ (((129 = 194) ∨ (0 ≤ 129 ∧ (129 - 0) < 14)) ∨ (0 ≤ 129 ∧ ((129 - 0) = 192 ∨ (129 - 0) = 193 ∨ (16 ≤ (129 - 0) ∧ (129 - 0) < 16 * (6 + 1) ∧ (129 - 0) % 16 < 14))))) ∨ (112 ≤ 129 ∧ (129 - 112) < 14)) ∨ (128 ≤ 129 ∧ (129 - 128) < 14))); omega)).trans (hX6 129 (by show (((129 = 195 ∨ (((129 = 194) ∨ (0 ≤ 129 ∧ (129 - 0) < 14)) ∨ (0 ≤ 129 ∧ ((129 - 0) = 192 ∨ (129 - 0) = 193 ∨ (16 ≤ (129 - 0) ∧ (129 - 0) < 16 * (6 + 1) ∧ (129 - 0) % 16 < 14))))) ∨ (112 ≤ 129 ∧ (129 - 112) < 14)) ∨ (128 ≤ 129 ∧ (129 - 128) < 14)); omega)))).trans hv5)
    by_cases r7 : 128 ≤ c ∧ c < 142
    · skip
      have hl : EX κ X8 c = pS_E κ (fun k => X8 (16 * (c / 16) + k)) (zS 10 10) (c % 16) := if_pos (by omega)
      rw [hl]
      simp only [va_up, SH]
      rw [if_neg (show ¬ (c = 194) by omega)]
      rw [if_neg (show ¬ (160 ≤ c ∧ c - 160 = 0) by omega)]
      rw [if_neg (show ¬ (c = 194) by omega)]
      rw [if_neg (show ¬ (144 ≤ c ∧ c - 144 < 2) by omega)]
      rw [if_neg (show ¬ (c = 194) by omega)]
      rw [if_neg (show ¬ (c = 196) by omega)]
      rw [if_neg (show ¬ (c = 195) by omega)]
      rw [if_pos (show 128 ≤ c ∧ c - 128 < 14 by omega)]
      rw [show c % 16 = c - 128 by omega]
      refine pS_E_congr (fun m hm => ?_) _
      rw [show 16 * (c / 16) + m = 128 + m by omega]
      exact ((hX8 (128 + m) (by show (((128 + m) = 196 ∨ ((((128 + m) = 195 ∨ ((((128 + m) = 194) ∨ (0 ≤ (128 + m) ∧ ((128 + m) - 0) < 14)) ∨ (0 ≤ (128 + m) ∧ (((128 + m) - 0) = 192 ∨ ((128 + m) - 0) = 193 ∨ (16 ≤ ((128 + m) - 0) ∧ ((128 + m) - 0) < 16 * (6 + 1) ∧ ((128 + m) - 0) % 16 < 14))))) ∨ (112 ≤ (128 + m) ∧ ((128 + m) - 112) < 14)) ∨ (128 ≤ (128 + m) ∧ ((128 + m) - 128) < 14))) ∨ (144 ≤ (128 + m) ∧ ((128 + m) - 144) < 2)); omega)).trans ((hX7 (128 + m) (by show ((128 + m) = 196 ∨ ((((128 + m) = 195 ∨ ((((128 + m) = 194) ∨ (0 ≤ (128 + m) ∧ ((128 + m) - 0) < 14)) ∨ (0 ≤ (128 + m) ∧ (((128 + m) - 0) = 192 ∨ ((128 + m) - 0) = 193 ∨ (16 ≤ ((128 + m) - 0) ∧ ((128 + m) - 0) < 16 * (6 + 1) ∧ ((128 + m) - 0) % 16 < 14))))) ∨ (112 ≤ (128 + m) ∧ ((128 + m) - 112) < 14)) ∨ (128 ≤ (128 + m) ∧ ((128 + m) - 128) < 14))); omega)).trans (hX6 (128 + m) (by show ((((128 + m) = 195 ∨ ((((128 + m) = 194) ∨ (0 ≤ (128 + m) ∧ ((128 + m) - 0) < 14)) ∨ (0 ≤ (128 + m) ∧ (((128 + m) - 0) = 192 ∨ ((128 + m) - 0) = 193 ∨ (16 ≤ ((128 + m) - 0) ∧ ((128 + m) - 0) < 16 * (6 + 1) ∧ ((128 + m) - 0) % 16 < 14))))) ∨ (112 ≤ (128 + m) ∧ ((128 + m) - 112) < 14)) ∨ (128 ≤ (128 + m) ∧ ((128 + m) - 128) < 14)); omega))))
    by_cases r9 : 112 ≤ c ∧ c < 126
    · skip
      have hl : EX κ X8 c = pS_E κ (fun k => X8 (16 * (c / 16) + k)) (zS 10 10) (c % 16) := if_pos (by omega)
      rw [hl]
      simp only [va_up, SH]
      rw [if_neg (show ¬ (c = 194) by omega)]
      rw [if_neg (show ¬ (160 ≤ c ∧ c - 160 = 0) by omega)]
      rw [if_neg (show ¬ (c = 194) by omega)]
      rw [if_neg (show ¬ (144 ≤ c ∧ c - 144 < 2) by omega)]
      rw [if_neg (show ¬ (c = 194) by omega)]
      rw [if_neg (show ¬ (c = 196) by omega)]
      rw [if_neg (show ¬ (c = 195) by omega)]
      rw [if_neg (show ¬ (128 ≤ c ∧ c - 128 < 14) by omega)]
      rw [if_neg (show ¬ (c = 195) by omega)]
      rw [if_pos (show 112 ≤ c ∧ c - 112 < 14 by omega)]
      rw [show c % 16 = c - 112 by omega]
      refine pS_E_congr (fun m hm => ?_) _
      rw [show 16 * (c / 16) + m = 112 + m by omega]
      exact ((hX8 (112 + m) (by show (((112 + m) = 196 ∨ ((((112 + m) = 195 ∨ ((((112 + m) = 194) ∨ (0 ≤ (112 + m) ∧ ((112 + m) - 0) < 14)) ∨ (0 ≤ (112 + m) ∧ (((112 + m) - 0) = 192 ∨ ((112 + m) - 0) = 193 ∨ (16 ≤ ((112 + m) - 0) ∧ ((112 + m) - 0) < 16 * (6 + 1) ∧ ((112 + m) - 0) % 16 < 14))))) ∨ (112 ≤ (112 + m) ∧ ((112 + m) - 112) < 14)) ∨ (128 ≤ (112 + m) ∧ ((112 + m) - 128) < 14))) ∨ (144 ≤ (112 + m) ∧ ((112 + m) - 144) < 2)); omega)).trans ((hX7 (112 + m) (by show ((112 + m) = 196 ∨ ((((112 + m) = 195 ∨ ((((112 + m) = 194) ∨ (0 ≤ (112 + m) ∧ ((112 + m) - 0) < 14)) ∨ (0 ≤ (112 + m) ∧ (((112 + m) - 0) = 192 ∨ ((112 + m) - 0) = 193 ∨ (16 ≤ ((112 + m) - 0) ∧ ((112 + m) - 0) < 16 * (6 + 1) ∧ ((112 + m) - 0) % 16 < 14))))) ∨ (112 ≤ (112 + m) ∧ ((112 + m) - 112) < 14)) ∨ (128 ≤ (112 + m) ∧ ((112 + m) - 128) < 14))); omega)).trans ((hX6 (112 + m) (by show ((((112 + m) = 195 ∨ ((((112 + m) = 194) ∨ (0 ≤ (112 + m) ∧ ((112 + m) - 0) < 14)) ∨ (0 ≤ (112 + m) ∧ (((112 + m) - 0) = 192 ∨ ((112 + m) - 0) = 193 ∨ (16 ≤ ((112 + m) - 0) ∧ ((112 + m) - 0) < 16 * (6 + 1) ∧ ((112 + m) - 0) % 16 < 14))))) ∨ (112 ≤ (112 + m) ∧ ((112 + m) - 112) < 14)) ∨ (128 ≤ (112 + m) ∧ ((112 + m) - 128) < 14)); omega)).trans (hX5 (112 + m) (by show (((112 + m) = 195 ∨ ((((112 + m) = 194) ∨ (0 ≤ (112 + m) ∧ ((112 + m) - 0) < 14)) ∨ (0 ≤ (112 + m) ∧ (((112 + m) - 0) = 192 ∨ ((112 + m) - 0) = 193 ∨ (16 ≤ ((112 + m) - 0) ∧ ((112 + m) - 0) < 16 * (6 + 1) ∧ ((112 + m) - 0) % 16 < 14))))) ∨ (112 ≤ (112 + m) ∧ ((112 + m) - 112) < 14)); omega)))))
    by_cases r13 : c = 192 ∨ c = 193 ∨ (16 ≤ c ∧ c < 112)
    · skip
      have hl : EX κ X8 c = EH κ 6 X8 c := by
        rcases (show c = 192 ∨ c = 193 ∨ c < 112 by omega) with rfl | rfl | z
        · rfl
        · rfl
        · unfold EX EH
          rw [if_pos (by omega), if_neg (by omega), if_neg (by omega)]
      rw [hl]
      simp only [va_up, SH]
      rw [if_neg (show ¬ (c = 194) by omega)]
      rw [if_neg (show ¬ (160 ≤ c ∧ c - 160 = 0) by omega)]
      rw [if_neg (show ¬ (c = 194) by omega)]
      rw [if_neg (show ¬ (144 ≤ c ∧ c - 144 < 2) by omega)]
      rw [if_neg (show ¬ (c = 194) by omega)]
      rw [if_neg (show ¬ (c = 196) by omega)]
      rw [if_neg (show ¬ (c = 195) by omega)]
      rw [if_neg (show ¬ (128 ≤ c ∧ c - 128 < 14) by omega)]
      rw [if_neg (show ¬ (c = 195) by omega)]
      rw [if_neg (show ¬ (112 ≤ c ∧ c - 112 < 14) by omega)]
      rw [if_neg (show ¬ (c = 194) by omega)]
      rw [if_neg (show ¬ (c = 195) by omega)]
      rw [if_neg (show ¬ (c = 194) by omega)]
      rw [if_pos (show 0 ≤ c ∧ ((c - 0) = 192 ∨ (c - 0) = 193 ∨ (16 ≤ (c - 0) ∧ (c - 0) < 16 * (6 + 1) ∧ (c - 0) % 16 < 14)) by omega)]
      exact hF_H _ _ (fun m hm => by
        have hm : (m = 192 ∨ m = 193 ∨ (16 ≤ m ∧ m < 16 * (6 + 1) ∧ m % 16 < 14)) := hm
        show X8 m = X2 (0 + m)
        rw [show 0 + m = m by omega]
        exact ((hX8 m (by show ((m = 196 ∨ (((m = 195 ∨ (((m = 194) ∨ (0 ≤ m ∧ (m - 0) < 14)) ∨ (0 ≤ m ∧ ((m - 0) = 192 ∨ (m - 0) = 193 ∨ (16 ≤ (m - 0) ∧ (m - 0) < 16 * (6 + 1) ∧ (m - 0) % 16 < 14))))) ∨ (112 ≤ m ∧ (m - 112) < 14)) ∨ (128 ≤ m ∧ (m - 128) < 14))) ∨ (144 ≤ m ∧ (m - 144) < 2)); omega)).trans ((hX7 m (by show (m = 196 ∨ (((m = 195 ∨ (((m = 194) ∨ (0 ≤ m ∧ (m - 0) < 14)) ∨ (0 ≤ m ∧ ((m - 0) = 192 ∨ (m - 0) = 193 ∨ (16 ≤ (m - 0) ∧ (m - 0) < 16 * (6 + 1) ∧ (m - 0) % 16 < 14))))) ∨ (112 ≤ m ∧ (m - 112) < 14)) ∨ (128 ≤ m ∧ (m - 128) < 14))); omega)).trans ((hX6 m (by show (((m = 195 ∨ (((m = 194) ∨ (0 ≤ m ∧ (m - 0) < 14)) ∨ (0 ≤ m ∧ ((m - 0) = 192 ∨ (m - 0) = 193 ∨ (16 ≤ (m - 0) ∧ (m - 0) < 16 * (6 + 1) ∧ (m - 0) % 16 < 14))))) ∨ (112 ≤ m ∧ (m - 112) < 14)) ∨ (128 ≤ m ∧ (m - 128) < 14)); omega)).trans ((hX5 m (by show ((m = 195 ∨ (((m = 194) ∨ (0 ≤ m ∧ (m - 0) < 14)) ∨ (0 ≤ m ∧ ((m - 0) = 192 ∨ (m - 0) = 193 ∨ (16 ≤ (m - 0) ∧ (m - 0) < 16 * (6 + 1) ∧ (m - 0) % 16 < 14))))) ∨ (112 ≤ m ∧ (m - 112) < 14)); omega)).trans ((hX4 m (by show (m = 195 ∨ (((m = 194) ∨ (0 ≤ m ∧ (m - 0) < 14)) ∨ (0 ≤ m ∧ ((m - 0) = 192 ∨ (m - 0) = 193 ∨ (16 ≤ (m - 0) ∧ (m - 0) < 16 * (6 + 1) ∧ (m - 0) % 16 < 14))))); omega)).trans (hX3 m (by show (((m = 194) ∨ (0 ≤ m ∧ (m - 0) < 14)) ∨ (0 ≤ m ∧ ((m - 0) = 192 ∨ (m - 0) = 193 ∨ (16 ≤ (m - 0) ∧ (m - 0) < 16 * (6 + 1) ∧ (m - 0) % 16 < 14)))); omega)))))))) c (by show (c = 192 ∨ c = 193 ∨ (16 ≤ c ∧ c < 16 * (6 + 1) ∧ c % 16 < 14)); omega)
    by_cases r15 : 0 ≤ c ∧ c < 14
    · skip
      have hl : EX κ X8 c = pS_E κ (fun k => X8 (16 * (c / 16) + k)) (zS 10 10) (c % 16) := if_pos (by omega)
      rw [hl]
      simp only [va_up, SH]
      rw [if_neg (show ¬ (c = 194) by omega)]
      rw [if_neg (show ¬ (160 ≤ c ∧ c - 160 = 0) by omega)]
      rw [if_neg (show ¬ (c = 194) by omega)]
      rw [if_neg (show ¬ (144 ≤ c ∧ c - 144 < 2) by omega)]
      rw [if_neg (show ¬ (c = 194) by omega)]
      rw [if_neg (show ¬ (c = 196) by omega)]
      rw [if_neg (show ¬ (c = 195) by omega)]
      rw [if_neg (show ¬ (128 ≤ c ∧ c - 128 < 14) by omega)]
      rw [if_neg (show ¬ (c = 195) by omega)]
      rw [if_neg (show ¬ (112 ≤ c ∧ c - 112 < 14) by omega)]
      rw [if_neg (show ¬ (c = 194) by omega)]
      rw [if_neg (show ¬ (c = 195) by omega)]
      rw [if_neg (show ¬ (c = 194) by omega)]
      rw [if_neg (show ¬ (0 ≤ c ∧ ((c - 0) = 192 ∨ (c - 0) = 193 ∨ (16 ≤ (c - 0) ∧ (c - 0) < 16 * (6 + 1) ∧ (c - 0) % 16 < 14))) by omega)]
      rw [if_neg (show ¬ (c = 194) by omega)]
      rw [if_pos (show 0 ≤ c ∧ c - 0 < 14 by omega)]
      rw [show c % 16 = c - 0 by omega]
      refine pS_E_congr (fun m hm => ?_) _
      rw [show 16 * (c / 16) + m = 0 + m by omega]
      exact ((hX8 (0 + m) (by show (((0 + m) = 196 ∨ ((((0 + m) = 195 ∨ ((((0 + m) = 194) ∨ (0 ≤ (0 + m) ∧ ((0 + m) - 0) < 14)) ∨ (0 ≤ (0 + m) ∧ (((0 + m) - 0) = 192 ∨ ((0 + m) - 0) = 193 ∨ (16 ≤ ((0 + m) - 0) ∧ ((0 + m) - 0) < 16 * (6 + 1) ∧ ((0 + m) - 0) % 16 < 14))))) ∨ (112 ≤ (0 + m) ∧ ((0 + m) - 112) < 14)) ∨ (128 ≤ (0 + m) ∧ ((0 + m) - 128) < 14))) ∨ (144 ≤ (0 + m) ∧ ((0 + m) - 144) < 2)); omega)).trans ((hX7 (0 + m) (by show ((0 + m) = 196 ∨ ((((0 + m) = 195 ∨ ((((0 + m) = 194) ∨ (0 ≤ (0 + m) ∧ ((0 + m) - 0) < 14)) ∨ (0 ≤ (0 + m) ∧ (((0 + m) - 0) = 192 ∨ ((0 + m) - 0) = 193 ∨ (16 ≤ ((0 + m) - 0) ∧ ((0 + m) - 0) < 16 * (6 + 1) ∧ ((0 + m) - 0) % 16 < 14))))) ∨ (112 ≤ (0 + m) ∧ ((0 + m) - 112) < 14)) ∨ (128 ≤ (0 + m) ∧ ((0 + m) - 128) < 14))); omega)).trans ((hX6 (0 + m) (by show ((((0 + m) = 195 ∨ ((((0 + m) = 194) ∨ (0 ≤ (0 + m) ∧ ((0 + m) - 0) < 14)) ∨ (0 ≤ (0 + m) ∧ (((0 + m) - 0) = 192 ∨ ((0 + m) - 0) = 193 ∨ (16 ≤ ((0 + m) - 0) ∧ ((0 + m) - 0) < 16 * (6 + 1) ∧ ((0 + m) - 0) % 16 < 14))))) ∨ (112 ≤ (0 + m) ∧ ((0 + m) - 112) < 14)) ∨ (128 ≤ (0 + m) ∧ ((0 + m) - 128) < 14)); omega)).trans ((hX5 (0 + m) (by show (((0 + m) = 195 ∨ ((((0 + m) = 194) ∨ (0 ≤ (0 + m) ∧ ((0 + m) - 0) < 14)) ∨ (0 ≤ (0 + m) ∧ (((0 + m) - 0) = 192 ∨ ((0 + m) - 0) = 193 ∨ (16 ≤ ((0 + m) - 0) ∧ ((0 + m) - 0) < 16 * (6 + 1) ∧ ((0 + m) - 0) % 16 < 14))))) ∨ (112 ≤ (0 + m) ∧ ((0 + m) - 112) < 14)); omega)).trans ((hX4 (0 + m) (by show ((0 + m) = 195 ∨ ((((0 + m) = 194) ∨ (0 ≤ (0 + m) ∧ ((0 + m) - 0) < 14)) ∨ (0 ≤ (0 + m) ∧ (((0 + m) - 0) = 192 ∨ ((0 + m) - 0) = 193 ∨ (16 ≤ ((0 + m) - 0) ∧ ((0 + m) - 0) < 16 * (6 + 1) ∧ ((0 + m) - 0) % 16 < 14))))); omega)).trans ((hX3 (0 + m) (by show ((((0 + m) = 194) ∨ (0 ≤ (0 + m) ∧ ((0 + m) - 0) < 14)) ∨ (0 ≤ (0 + m) ∧ (((0 + m) - 0) = 192 ∨ ((0 + m) - 0) = 193 ∨ (16 ≤ ((0 + m) - 0) ∧ ((0 + m) - 0) < 16 * (6 + 1) ∧ ((0 + m) - 0) % 16 < 14)))); omega)).trans (hX2 (0 + m) (by show (((0 + m) = 194) ∨ (0 ≤ (0 + m) ∧ ((0 + m) - 0) < 14)); omega))))))))
    rcases (show c = 144 ∨ c = 145 ∨ c = 160 ∨ c = 194 ∨ c = 195 ∨ c = 196 by omega) with rfl | rfl | rfl | rfl | rfl | rfl
    · rfl
    · show (Sum.inr (1, [.ref (X8 144), .int 0]) : va_E) = .inr (1, [.ref (X7 (144 + 0)), .int 0])
      rw [show X8 144 = X7 (144 + 0) from (hX8 144 (by show ((144 = 196 ∨ (((144 = 195 ∨ (((144 = 194) ∨ (0 ≤ 144 ∧ (144 - 0) < 14)) ∨ (0 ≤ 144 ∧ ((144 - 0) = 192 ∨ (144 - 0) = 193 ∨ (16 ≤ (144 - 0) ∧ (144 - 0) < 16 * (6 + 1) ∧ (144 - 0) % 16 < 14))))) ∨ (112 ≤ 144 ∧ (144 - 112) < 14)) ∨ (128 ≤ 144 ∧ (144 - 128) < 14))) ∨ (144 ≤ 144 ∧ (144 - 144) < 2)); omega))]
    · rfl
    · show (Sum.inr (4, [.ref (X8 1), .ref (X8 192), .ref (X8 195), .ref (X8 196), .ref (X8 145), .ref (X8 160)]) : va_E) = _
      rw [v1, v192, v195, v196, v145, v160]
      rfl
    · show (Sum.inl (κ.2.1 3, 2, .inr (.inr (.inr (.inr (rowX X8))))) : va_E) = .inl (κ.2.1 3, 2, .inr (.inr (.inr (.inr (va_up (va_up (fun _ => none) 0 (some q7)) 1 (some q9))))))
      have er : rowX X8 = (va_up (va_up (fun _ => none) 0 (some q7)) 1 (some q9)) := by
        funext j
        rcases (show j = 0 ∨ j = 1 ∨ 2 ≤ j by omega) with rfl | rfl | z
        · show some (X8 113) = _
          rw [v113]; rfl
        · show some (X8 129) = _
          rw [v129]; rfl
        · unfold rowX
          rw [if_neg (by omega), va_up_ne _ _ (by omega), va_up_ne _ _ (by omega)]
      rw [er]
    · rfl
  exact pg_vret (pc := 89) hC dX4_init_89 rfl ⟨_, hfin⟩
end
